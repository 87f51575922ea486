/-! the class's calls, against the reference: marks, told looks, counts, the digest -/
set_option maxRecDepth 20000 in
theorem tX4_unlikeSights (w : q_W) (ξ : m_S) (B P : Nat) (g : Int → Option Nat) (p : Int) (hp0 : 0 ≤ p) (hp1 : p < ξ 7 0) (hPs : x_Ps ξ B P g) (hT : x_Pt ξ p) (hG : x_G ξ) (hk : ξ 1000 p = 1 ∨ ξ 1000 p = 4) : q_D mX4_unlikeSights 1 [.ref (B + p.toNat)] (x_w w ξ B P g) (some (q_i (ξ 1003 p))) (x_w w ξ B P g) := by
  refine q_T.of (lv := [some (.ref (B + p.toNat))]) (by decide) rfl (Nat.le_of_ble_eq_true rfl) ?_
  have hPs1 := hPs.1
  have hPs2 := hPs.2.1
  have hPs3 := hPs.2.2.1
  refine q_aload_n dX4_unlikeSights_0 rfl ?_
  refine q_get (v := q_i (ξ 1003 p)) (fPX4_39 hk) (x_pOi (p := p) (by omega) (by omega) (by omega)) rfl dX4_unlikeSights_1 ?_
  exact q_iret rfl dX4_unlikeSights_4 (⟨rfl, rfl⟩)
set_option maxRecDepth 20000 in
theorem tX1_waysLeavingFirst (w : q_W) (ξ : m_S) (B P : Nat) (g : Int → Option Nat) (p : Int) (hp0 : 0 ≤ p) (hp1 : p < ξ 7 0) (hPs : x_Ps ξ B P g) (hT : x_Pt ξ p) (hG : x_G ξ) (hk : ξ 1000 p = 2 ∨ ξ 1000 p = 5) : q_D mX1_waysLeavingFirst 2 [.ref (B + p.toNat)] (x_w w ξ B P g) (some (q_i (z_sum (fun i => if z_nt (ξ 8 0) (ξ 8 1) (z_tl (x_fp ξ p) (fun _ => 0) (ξ 8 2) i) 0 = 0 then x_fp ξ p (z_tl (x_fp ξ p) (fun _ => 0) (ξ 8 2) i) else 0) (ξ 1003 p)))) (x_w w ξ B P g) := by
  refine q_T.of (lv := [some (.ref (B + p.toNat)), none, none]) (by decide) rfl (Nat.le_of_ble_eq_true rfl) ?_
  have hPs1 := hPs.1
  have hPs2 := hPs.2.1
  have hPs3 := hPs.2.2.1
  have hWN := hG.1
  have hW := hG.1.1
  have hN := hG.1.2
  have hS := hG.S
  have h13 := hT.2.2.2.1
  have hpz := z_pos_r (x_fp ξ p) (n := ξ 8 2) (by omega)
  refine q_iconst dX1_waysLeavingFirst_0 ?_
  refine q_istore_n (lv' := [some (.ref (B + p.toNat)), some (q_i 0), none]) dX1_waysLeavingFirst_1 (by decide) rfl ?_
  refine q_iconst dX1_waysLeavingFirst_2 ?_
  refine q_istore_n (lv' := [some (.ref (B + p.toNat)), some (q_i 0), some (q_i 0)]) dX1_waysLeavingFirst_3 (by decide) rfl ?_
  have L4 : ∀ (m9 : Nat) (i : Int) (hi0 : 0 ≤ i) (hi1 : i ≤ ξ 1003 p) (hm9 : ξ 1003 p - i < (m9 : Int)), q_J mX1_waysLeavingFirst 2 (fun v' w' => v' = (some (q_i (z_sum (fun i => if z_nt (ξ 8 0) (ξ 8 1) (z_tl (x_fp ξ p) (fun _ => 0) (ξ 8 2) i) 0 = 0 then x_fp ξ p (z_tl (x_fp ξ p) (fun _ => 0) (ξ 8 2) i) else 0) (ξ 1003 p)))) ∧ w' = (x_w w ξ B P g)) 0 0 4 [some (.ref (B + p.toNat)), some (q_i (z_sum (fun i => if z_nt (ξ 8 0) (ξ 8 1) (z_tl (x_fp ξ p) (fun _ => 0) (ξ 8 2) i) 0 = 0 then x_fp ξ p (z_tl (x_fp ξ p) (fun _ => 0) (ξ 8 2) i) else 0) i)), some (q_i i)] [] (x_w w ξ B P g) := by
    intro m9
    induction m9 with
    | zero => intro i hi0 hi1 hm9; exact absurd hm9 (by omega)
    | succ m9 ih4 =>
      intro i hi0 hi1 hm9
      refine q_iload_n dX1_waysLeavingFirst_4 rfl ?_
      refine q_aload_n dX1_waysLeavingFirst_5 rfl ?_
      refine q_get (v := q_i (ξ 1003 p)) (fPX1_36 hk) (x_pOi (p := p) (by omega) (by omega) (by omega)) rfl dX1_waysLeavingFirst_6 ?_
      refine q_icmp_ge (tgt := 52) dX1_waysLeavingFirst_9 (by decide) ⟨by omega, by omega⟩ ⟨by omega, by omega⟩ (fun h9 => ?_) (fun h9 => ?_)
      · skip
        refine q_iload_n dX1_waysLeavingFirst_52 rfl ?_
        exact q_iret rfl dX1_waysLeavingFirst_53 (⟨by rw [show i = ξ 1003 p by omega], rfl⟩)
      · skip
        have htl := z_tl_p (x_fp ξ p) (fun _ => 0) (n := ξ 8 2) (i := i) (by omega) hi0 (by omega)
        refine q_iload_n dX1_waysLeavingFirst_12 rfl ?_
        refine q_aload_n dX1_waysLeavingFirst_13 rfl ?_
        refine q_get (v := .ref 8) (fPX1_9 hk) (x_pOi (p := p) (by omega) (by omega) (by omega)) rfl dX1_waysLeavingFirst_14 ?_
        refine q_aload_n dX1_waysLeavingFirst_17 rfl ?_
        refine q_get (v := .ref (20 + p.toNat)) (fPX1_39 hk) (x_pOi (p := p) (by omega) (by omega) (by omega)) rfl dX1_waysLeavingFirst_18 ?_
        refine q_iload_n dX1_waysLeavingFirst_21 rfl ?_
        refine q_iald (f := (ξ (20 + p.toNat))) (n9 := 216) (x_tu (p := p.toNat) (by omega)) (by omega) (by omega) dX1_waysLeavingFirst_22 ?_
        rw [hT.2.2.2.2.2 i hi0 (by omega)]
        refine q_iconst dX1_waysLeavingFirst_23 ?_
        refine q_cV [q_i (z_tl (x_fp ξ p) (fun _ => 0) (ξ 8 2) i), q_i 0] kX1_29_10 rfl (tX10_notchOf w ξ B P g (z_tl (x_fp ξ p) (fun _ => 0) (ξ 8 2) i) 0 (show (0 : Int) ≤ (z_tl (x_fp ξ p) (fun _ => 0) (ξ 8 2) i) by omega) (show (z_tl (x_fp ξ p) (fun _ => 0) (ξ 8 2) i) < ξ 8 2 by omega) (show (0 : Int) ≤ 0 by omega) (show 0 < ξ 8 0 by omega) hG) dX1_waysLeavingFirst_24 rfl (by decide) (Nat.le_of_ble_eq_true rfl) rfl ?_
        have hnr := z_nt_in hWN htl.1.1 (w := 0) (by omega) (by omega)
        refine q_if_ne (tgt := 43) dX1_waysLeavingFirst_27 (by decide) ⟨by omega, by omega⟩ (fun h27 => ?_) (fun h27 => ?_)
        · skip
          refine q_iconst dX1_waysLeavingFirst_43 ?_
          refine q_iadd dX1_waysLeavingFirst_44 ?_
          refine q_istore_n (lv' := [some (.ref (B + p.toNat)), some (q_i ((z_sum (fun i => if z_nt (ξ 8 0) (ξ 8 1) (z_tl (x_fp ξ p) (fun _ => 0) (ξ 8 2) i) 0 = 0 then x_fp ξ p (z_tl (x_fp ξ p) (fun _ => 0) (ξ 8 2) i) else 0) i) + 0)), some (q_i i)]) dX1_waysLeavingFirst_45 (by decide) rfl ?_
          refine q_iinc (lv' := [some (.ref (B + p.toNat)), some (q_i ((z_sum (fun i => if z_nt (ξ 8 0) (ξ 8 1) (z_tl (x_fp ξ p) (fun _ => 0) (ξ 8 2) i) 0 = 0 then x_fp ξ p (z_tl (x_fp ξ p) (fun _ => 0) (ξ 8 2) i) else 0) i) + 0)), some (q_i (i + 1))]) dX1_waysLeavingFirst_46 rfl (by decide) rfl ?_
          refine q_goto (tgt := 4) dX1_waysLeavingFirst_49 (by decide) ?_
          exact q_Jle (q_le_s (rfl) (q_le_s (by rw [z_sum_s _ hi0]; (try dsimp only); (repeat' split) <;> first | rfl | (exfalso; omega)) (q_le_s (rfl) (q_le_e _)))) (rfl) (rfl) (ih4 (i + 1) (by omega) (by omega) (by omega))
        · skip
          refine q_aload_n dX1_waysLeavingFirst_30 rfl ?_
          refine q_aload_n dX1_waysLeavingFirst_31 rfl ?_
          refine q_get (v := .ref (20 + p.toNat)) (fPX1_39 hk) (x_pOi (p := p) (by omega) (by omega) (by omega)) rfl dX1_waysLeavingFirst_32 ?_
          refine q_iload_n dX1_waysLeavingFirst_35 rfl ?_
          refine q_iald (f := (ξ (20 + p.toNat))) (n9 := 216) (x_tu (p := p.toNat) (by omega)) (by omega) (by omega) dX1_waysLeavingFirst_36 ?_
          rw [hT.2.2.2.2.2 i hi0 (by omega)]
          refine q_cP [q_i (z_tl (x_fp ξ p) (fun _ => 0) (ξ 8 2) i)] (kPX1_43 hk) (x_pOi (p := p) (by omega) (by omega) (by omega)) (Eq.mp (congrArg (fun z => q_D mX5_timesOf 1 [.ref (B + p.toNat), q_i (z_tl (x_fp ξ p) (fun _ => 0) (ξ 8 2) i)] (x_w w ξ B P g) (some (q_i z)) (x_w w ξ B P g)) (hT.2.2.1 _ htl.1.1 htl.1.2)) (tX5_timesOf w ξ B P g p.toNat (by omega) (by omega) (by omega) (z_tl (x_fp ξ p) (fun _ => 0) (ξ 8 2) i) htl.1.1 htl.1.2 hS.2)) dX1_waysLeavingFirst_37 rfl (by decide) (Nat.le_of_ble_eq_true rfl) rfl ?_
          refine q_goto (tgt := 44) dX1_waysLeavingFirst_40 (by decide) ?_
          refine q_iadd dX1_waysLeavingFirst_44 ?_
          refine q_istore_n (lv' := [some (.ref (B + p.toNat)), some (q_i ((z_sum (fun i => if z_nt (ξ 8 0) (ξ 8 1) (z_tl (x_fp ξ p) (fun _ => 0) (ξ 8 2) i) 0 = 0 then x_fp ξ p (z_tl (x_fp ξ p) (fun _ => 0) (ξ 8 2) i) else 0) i) + (x_fp ξ p (z_tl (x_fp ξ p) (fun _ => 0) (ξ 8 2) i)))), some (q_i i)]) dX1_waysLeavingFirst_45 (by decide) rfl ?_
          refine q_iinc (lv' := [some (.ref (B + p.toNat)), some (q_i ((z_sum (fun i => if z_nt (ξ 8 0) (ξ 8 1) (z_tl (x_fp ξ p) (fun _ => 0) (ξ 8 2) i) 0 = 0 then x_fp ξ p (z_tl (x_fp ξ p) (fun _ => 0) (ξ 8 2) i) else 0) i) + (x_fp ξ p (z_tl (x_fp ξ p) (fun _ => 0) (ξ 8 2) i)))), some (q_i (i + 1))]) dX1_waysLeavingFirst_46 rfl (by decide) rfl ?_
          refine q_goto (tgt := 4) dX1_waysLeavingFirst_49 (by decide) ?_
          exact q_Jle (q_le_s (rfl) (q_le_s (by rw [z_sum_s _ hi0]; (try dsimp only); (repeat' split) <;> first | rfl | (exfalso; omega)) (q_le_s (rfl) (q_le_e _)))) (rfl) (rfl) (ih4 (i + 1) (by omega) (by omega) (by omega))
  exact q_Jle (q_le_s (rfl) (q_le_s (rfl) (q_le_s (rfl) (q_le_e _)))) (rfl) (rfl) (L4 ((ξ 1003 p : Int).toNat + 1) 0 (by omega) (by omega) (by omega))
set_option maxRecDepth 20000 in
theorem tX3_turnedWheels (w : q_W) (ξ : m_S) (B P : Nat) (g : Int → Option Nat) (p : Int) (hp0 : 0 ≤ p) (hp1 : p < ξ 7 0) (hPs : x_Ps ξ B P g) (hT : x_Pt ξ p) (hG : x_G ξ) (hk : ξ 1000 p = 4) : q_D mX3_turnedWheels 2 [.ref (B + p.toNat)] (x_w w ξ B P g) (some (q_i (ξ 8 0 - z_fst 4 (ξ 8 0)))) (x_w w ξ B P g) := by
  refine q_T.of (lv := [some (.ref (B + p.toNat))]) (by decide) rfl (Nat.le_of_ble_eq_true rfl) ?_
  have hPs1 := hPs.1
  have hPs2 := hPs.2.1
  have hPs3 := hPs.2.2.1
  have hWN := hG.1
  have hW := hG.1.1
  have hN := hG.1.2
  have hS := hG.S
  refine q_aload_n dX3_turnedWheels_0 rfl ?_
  refine q_get (v := .ref 8) (fPX3_9 hk) (x_pOi (p := p) (by omega) (by omega) (by omega)) rfl dX3_turnedWheels_1 ?_
  refine q_get (v := q_i (ξ 8 0)) fX3_15_10 rfl rfl dX3_turnedWheels_4 ?_
  refine q_aload_n dX3_turnedWheels_7 rfl ?_
  refine q_cP [] (kPX3_27 hk) (x_pOi (p := p) (by omega) (by omega) (by omega)) (tX3_firstTurned w ξ B P g p.toNat (by omega) (by omega) (by omega) (by rw [Int.toNat_of_nonneg hp0]; exact hk) hW) dX3_turnedWheels_8 rfl (by decide) (Nat.le_of_ble_eq_true rfl) rfl ?_
  refine q_isub dX3_turnedWheels_11 ?_
  exact q_iret rfl dX3_turnedWheels_12 (⟨rfl, rfl⟩)
set_option maxRecDepth 20000 in
theorem tX0_turnedNotches (w : q_W) (ξ : m_S) (B P : Nat) (g : Int → Option Nat) (p : Int) (hp0 : 0 ≤ p) (hp1 : p < ξ 7 0) (hPs : x_Ps ξ B P g) (hT : x_Pt ξ p) (hG : x_G ξ) (hk : ξ 1000 p = 5) : q_D mX0_turnedNotches 2 [.ref (B + p.toNat)] (x_w w ξ B P g) (some (q_i (z_sum (fun i => z_sum (fun v => x_fp ξ p (z_tl (x_fp ξ p) (fun _ => 0) (ξ 8 2) i) * z_nt (ξ 8 0) (ξ 8 1) (z_tl (x_fp ξ p) (fun _ => 0) (ξ 8 2) i) v) (ξ 8 0)) (ξ 1003 p)))) (x_w w ξ B P g) := by
  refine q_T.of (lv := [some (.ref (B + p.toNat)), none, none, none]) (by decide) rfl (Nat.le_of_ble_eq_true rfl) ?_
  have hPs1 := hPs.1
  have hPs2 := hPs.2.1
  have hPs3 := hPs.2.2.1
  have hWN := hG.1
  have hW := hG.1.1
  have hN := hG.1.2
  have hS := hG.S
  have h13 := hT.2.2.2.1
  have hpz := z_pos_r (x_fp ξ p) (n := ξ 8 2) (by omega)
  refine q_iconst dX0_turnedNotches_0 ?_
  refine q_istore_n (lv' := [some (.ref (B + p.toNat)), some (q_i 0), none, none]) dX0_turnedNotches_1 (by decide) rfl ?_
  refine q_iconst dX0_turnedNotches_2 ?_
  refine q_istore_n (lv' := [some (.ref (B + p.toNat)), some (q_i 0), some (q_i 0), none]) dX0_turnedNotches_3 (by decide) rfl ?_
  have L4 : ∀ (m9 : Nat) (i : Int) (hi0 : 0 ≤ i) (hi1 : i ≤ ξ 1003 p) (hm9 : ξ 1003 p - i < (m9 : Int)), q_J mX0_turnedNotches 2 (fun v' w' => v' = (some (q_i (z_sum (fun i => z_sum (fun v => x_fp ξ p (z_tl (x_fp ξ p) (fun _ => 0) (ξ 8 2) i) * z_nt (ξ 8 0) (ξ 8 1) (z_tl (x_fp ξ p) (fun _ => 0) (ξ 8 2) i) v) (ξ 8 0)) (ξ 1003 p)))) ∧ w' = (x_w w ξ B P g)) 0 0 4 [some (.ref (B + p.toNat)), some (q_i (z_sum (fun i => z_sum (fun v => x_fp ξ p (z_tl (x_fp ξ p) (fun _ => 0) (ξ 8 2) i) * z_nt (ξ 8 0) (ξ 8 1) (z_tl (x_fp ξ p) (fun _ => 0) (ξ 8 2) i) v) (ξ 8 0)) i)), some (q_i i), none] [] (x_w w ξ B P g) := by
    intro m9
    induction m9 with
    | zero => intro i hi0 hi1 hm9; exact absurd hm9 (by omega)
    | succ m9 ih4 =>
      intro i hi0 hi1 hm9
      refine q_iload_n dX0_turnedNotches_4 rfl ?_
      refine q_aload_n dX0_turnedNotches_5 rfl ?_
      refine q_get (v := q_i (ξ 1003 p)) (fPX0_15 hk) (x_pOi (p := p) (by omega) (by omega) (by omega)) rfl dX0_turnedNotches_6 ?_
      refine q_icmp_ge (tgt := 65) dX0_turnedNotches_9 (by decide) ⟨by omega, by omega⟩ ⟨by omega, by omega⟩ (fun h9 => ?_) (fun h9 => ?_)
      · skip
        refine q_iload_n dX0_turnedNotches_65 rfl ?_
        exact q_iret rfl dX0_turnedNotches_66 (⟨by rw [show i = ξ 1003 p by omega], rfl⟩)
      · skip
        have htl := z_tl_p (x_fp ξ p) (fun _ => 0) (n := ξ 8 2) (i := i) (by omega) hi0 (by omega)
        refine q_iconst dX0_turnedNotches_12 ?_
        refine q_istore_n (lv' := [some (.ref (B + p.toNat)), some (q_i (z_sum (fun i => z_sum (fun v => x_fp ξ p (z_tl (x_fp ξ p) (fun _ => 0) (ξ 8 2) i) * z_nt (ξ 8 0) (ξ 8 1) (z_tl (x_fp ξ p) (fun _ => 0) (ξ 8 2) i) v) (ξ 8 0)) i)), some (q_i i), some (q_i 0)]) dX0_turnedNotches_13 (by decide) rfl ?_
        have L14 : ∀ (m9 : Nat) (v : Int) (hv0 : 0 ≤ v) (hv1 : v ≤ ξ 8 0) (hm9 : ξ 8 0 - v < (m9 : Int)), q_J mX0_turnedNotches 2 (fun v' w' => v' = (some (q_i (z_sum (fun i => z_sum (fun v => x_fp ξ p (z_tl (x_fp ξ p) (fun _ => 0) (ξ 8 2) i) * z_nt (ξ 8 0) (ξ 8 1) (z_tl (x_fp ξ p) (fun _ => 0) (ξ 8 2) i) v) (ξ 8 0)) (ξ 1003 p)))) ∧ w' = (x_w w ξ B P g)) 0 0 14 [some (.ref (B + p.toNat)), some (q_i (z_sum (fun i => z_sum (fun v => x_fp ξ p (z_tl (x_fp ξ p) (fun _ => 0) (ξ 8 2) i) * z_nt (ξ 8 0) (ξ 8 1) (z_tl (x_fp ξ p) (fun _ => 0) (ξ 8 2) i) v) (ξ 8 0)) i + (z_sum (fun v => x_fp ξ p (z_tl (x_fp ξ p) (fun _ => 0) (ξ 8 2) i) * z_nt (ξ 8 0) (ξ 8 1) (z_tl (x_fp ξ p) (fun _ => 0) (ξ 8 2) i) v) v))), some (q_i i), some (q_i v)] [] (x_w w ξ B P g) := by
          intro m9
          induction m9 with
          | zero => intro v hv0 hv1 hm9; exact absurd hm9 (by omega)
          | succ m9 ih14 =>
            intro v hv0 hv1 hm9
            refine q_iload_n dX0_turnedNotches_14 rfl ?_
            refine q_aload_n dX0_turnedNotches_15 rfl ?_
            refine q_get (v := .ref 8) (fPX0_19 hk) (x_pOi (p := p) (by omega) (by omega) (by omega)) rfl dX0_turnedNotches_16 ?_
            refine q_get (v := q_i (ξ 8 0)) fX0_23_10 rfl rfl dX0_turnedNotches_19 ?_
            refine q_icmp_ge (tgt := 59) dX0_turnedNotches_22 (by decide) ⟨by omega, by omega⟩ ⟨by omega, by omega⟩ (fun h22 => ?_) (fun h22 => ?_)
            · skip
              refine q_iinc (lv' := [some (.ref (B + p.toNat)), some (q_i (z_sum (fun i => z_sum (fun v => x_fp ξ p (z_tl (x_fp ξ p) (fun _ => 0) (ξ 8 2) i) * z_nt (ξ 8 0) (ξ 8 1) (z_tl (x_fp ξ p) (fun _ => 0) (ξ 8 2) i) v) (ξ 8 0)) i + (z_sum (fun v => x_fp ξ p (z_tl (x_fp ξ p) (fun _ => 0) (ξ 8 2) i) * z_nt (ξ 8 0) (ξ 8 1) (z_tl (x_fp ξ p) (fun _ => 0) (ξ 8 2) i) v) v))), some (q_i (i + 1)), some (q_i v)]) dX0_turnedNotches_59 rfl (by decide) rfl ?_
              refine q_goto (tgt := 4) dX0_turnedNotches_62 (by decide) ?_
              exact q_Jle (q_le_s (rfl) (q_le_s (by rw [z_sum_s _ hi0, show v = ξ 8 0 by omega]) (q_le_s (rfl) (q_le_n (q_le_e _))))) (rfl) (rfl) (ih4 (i + 1) (by omega) (by omega) (by omega))
            · skip
              refine q_iload_n dX0_turnedNotches_25 rfl ?_
              refine q_aload_n dX0_turnedNotches_26 rfl ?_
              refine q_aload_n dX0_turnedNotches_27 rfl ?_
              refine q_get (v := .ref (20 + p.toNat)) (fPX0_28 hk) (x_pOi (p := p) (by omega) (by omega) (by omega)) rfl dX0_turnedNotches_28 ?_
              refine q_iload_n dX0_turnedNotches_31 rfl ?_
              refine q_iald (f := (ξ (20 + p.toNat))) (n9 := 216) (x_tu (p := p.toNat) (by omega)) (by omega) (by omega) dX0_turnedNotches_32 ?_
              rw [hT.2.2.2.2.2 i hi0 (by omega)]
              refine q_cP [q_i (z_tl (x_fp ξ p) (fun _ => 0) (ξ 8 2) i)] (kPX0_32 hk) (x_pOi (p := p) (by omega) (by omega) (by omega)) (Eq.mp (congrArg (fun z => q_D mX5_timesOf 1 [.ref (B + p.toNat), q_i (z_tl (x_fp ξ p) (fun _ => 0) (ξ 8 2) i)] (x_w w ξ B P g) (some (q_i z)) (x_w w ξ B P g)) (hT.2.2.1 _ htl.1.1 htl.1.2)) (tX5_timesOf w ξ B P g p.toNat (by omega) (by omega) (by omega) (z_tl (x_fp ξ p) (fun _ => 0) (ξ 8 2) i) htl.1.1 htl.1.2 hS.2)) dX0_turnedNotches_33 rfl (by decide) (Nat.le_of_ble_eq_true rfl) rfl ?_
              refine q_aload_n dX0_turnedNotches_36 rfl ?_
              refine q_get (v := .ref 8) (fPX0_19 hk) (x_pOi (p := p) (by omega) (by omega) (by omega)) rfl dX0_turnedNotches_37 ?_
              refine q_aload_n dX0_turnedNotches_40 rfl ?_
              refine q_get (v := .ref (20 + p.toNat)) (fPX0_28 hk) (x_pOi (p := p) (by omega) (by omega) (by omega)) rfl dX0_turnedNotches_41 ?_
              refine q_iload_n dX0_turnedNotches_44 rfl ?_
              refine q_iald (f := (ξ (20 + p.toNat))) (n9 := 216) (x_tu (p := p.toNat) (by omega)) (by omega) (by omega) dX0_turnedNotches_45 ?_
              rw [hT.2.2.2.2.2 i hi0 (by omega)]
              refine q_iload_n dX0_turnedNotches_46 rfl ?_
              refine q_cV [q_i (z_tl (x_fp ξ p) (fun _ => 0) (ξ 8 2) i), q_i v] kX0_36_10 rfl (tX10_notchOf w ξ B P g (z_tl (x_fp ξ p) (fun _ => 0) (ξ 8 2) i) v (show (0 : Int) ≤ (z_tl (x_fp ξ p) (fun _ => 0) (ξ 8 2) i) by omega) (show (z_tl (x_fp ξ p) (fun _ => 0) (ξ 8 2) i) < ξ 8 2 by omega) (show (0 : Int) ≤ v by omega) (show v < ξ 8 0 by omega) hG) dX0_turnedNotches_47 rfl (by decide) (Nat.le_of_ble_eq_true rfl) rfl ?_
              refine q_imul dX0_turnedNotches_50 ?_
              refine q_iadd dX0_turnedNotches_51 ?_
              refine q_istore_n (lv' := [some (.ref (B + p.toNat)), some (q_i ((z_sum (fun i => z_sum (fun v => x_fp ξ p (z_tl (x_fp ξ p) (fun _ => 0) (ξ 8 2) i) * z_nt (ξ 8 0) (ξ 8 1) (z_tl (x_fp ξ p) (fun _ => 0) (ξ 8 2) i) v) (ξ 8 0)) i + (z_sum (fun v => x_fp ξ p (z_tl (x_fp ξ p) (fun _ => 0) (ξ 8 2) i) * z_nt (ξ 8 0) (ξ 8 1) (z_tl (x_fp ξ p) (fun _ => 0) (ξ 8 2) i) v) v)) + ((x_fp ξ p (z_tl (x_fp ξ p) (fun _ => 0) (ξ 8 2) i)) * (z_nt (ξ 8 0) (ξ 8 1) (z_tl (x_fp ξ p) (fun _ => 0) (ξ 8 2) i) v)))), some (q_i i), some (q_i v)]) dX0_turnedNotches_52 (by decide) rfl ?_
              refine q_iinc (lv' := [some (.ref (B + p.toNat)), some (q_i ((z_sum (fun i => z_sum (fun v => x_fp ξ p (z_tl (x_fp ξ p) (fun _ => 0) (ξ 8 2) i) * z_nt (ξ 8 0) (ξ 8 1) (z_tl (x_fp ξ p) (fun _ => 0) (ξ 8 2) i) v) (ξ 8 0)) i + (z_sum (fun v => x_fp ξ p (z_tl (x_fp ξ p) (fun _ => 0) (ξ 8 2) i) * z_nt (ξ 8 0) (ξ 8 1) (z_tl (x_fp ξ p) (fun _ => 0) (ξ 8 2) i) v) v)) + ((x_fp ξ p (z_tl (x_fp ξ p) (fun _ => 0) (ξ 8 2) i)) * (z_nt (ξ 8 0) (ξ 8 1) (z_tl (x_fp ξ p) (fun _ => 0) (ξ 8 2) i) v)))), some (q_i i), some (q_i (v + 1))]) dX0_turnedNotches_53 rfl (by decide) rfl ?_
              refine q_goto (tgt := 14) dX0_turnedNotches_56 (by decide) ?_
              exact q_Jle (q_le_s (rfl) (q_le_s (by rw [z_sum_s (fun v => x_fp ξ p (z_tl (x_fp ξ p) (fun _ => 0) (ξ 8 2) i) * z_nt (ξ 8 0) (ξ 8 1) (z_tl (x_fp ξ p) (fun _ => 0) (ξ 8 2) i) v) hv0, Int.add_assoc]) (q_le_s (rfl) (q_le_s (rfl) (q_le_e _))))) (rfl) (rfl) (ih14 (v + 1) (by omega) (by omega) (by omega))
        exact q_Jle (q_le_s (rfl) (q_le_s (by rw [z_sum_0 (fun v => x_fp ξ p (z_tl (x_fp ξ p) (fun _ => 0) (ξ 8 2) i) * z_nt (ξ 8 0) (ξ 8 1) (z_tl (x_fp ξ p) (fun _ => 0) (ξ 8 2) i) v), Int.add_zero]) (q_le_s (rfl) (q_le_s (rfl) (q_le_e _))))) (rfl) (rfl) (L14 ((ξ 8 0 : Int).toNat + 1) 0 (by omega) (by omega) (by omega))
  exact q_Jle (q_le_s (rfl) (q_le_s (rfl) (q_le_s (rfl) (q_le_n (q_le_e _))))) (rfl) (rfl) (L4 ((ξ 1003 p : Int).toNat + 1) 0 (by omega) (by omega) (by omega))
set_option maxRecDepth 20000 in
theorem tX11_mark (w : q_W) (μ ξ : m_S) (B P : Nat) (g : Int → Option Nat) (hR : z_R μ ξ B P g) (p t : Int) (hp : q_r p) (ht : q_r t) : q_T mX11_mark 4 0 0 [.ref 0, q_i p, q_i t] (x_w w ξ B P g) (z_Q w B P g (q_i (m_mark_v μ p t)) (m_mark_s μ p t)) := by
  refine q_T.of (lv := [some (.ref 0), some (q_i p), some (q_i t), none, none]) (by decide) rfl (Nat.le_of_ble_eq_true rfl) ?_
  obtain ⟨hn7, hn80, hn81, hn82, hn10⟩ := hR.n
  have hSb := hR.Sh.b
  have hDb := hR.De.1
  have hPs := hR.Ps
  have hPs1 := hPs.1
  have hPs2 := hPs.2.1
  have hPs3 := hPs.2.2.1
  have hTs := hR.Ts
  have hV := hR.V
  by_cases hq0 : 0 ≤ p ∧ p < ξ 7 0
  · skip
    obtain ⟨hp0, hp1⟩ := hq0
    have hkp := (hR.p (p := p) hp0 (by omega)).1
    refine q_aload_n dX11_mark_0 rfl ?_
    refine q_get (v := .ref 7) fX11_34_11 rfl rfl dX11_mark_1 ?_
    refine q_iload_n dX11_mark_4 rfl ?_
    refine q_cV [q_i p] kX11_118_8 rfl (tX8_personAt_y w ξ B P g p (show (0 : Int) ≤ p by omega) (show p < ξ 7 0 by omega) hPs) dX11_mark_5 rfl (by decide) (Nat.le_of_ble_eq_true rfl) rfl ?_
    refine q_astore_n (lv' := [some (.ref 0), some (q_i p), some (q_i t), some (.ref (B + p.toNat)), none]) dX11_mark_8 (by decide) rfl ?_
    refine q_aload_n dX11_mark_9 rfl ?_
    refine q_ifnullS dX11_mark_10 ?_
    refine q_iload_n dX11_mark_13 rfl ?_
    refine q_if_le (tgt := 22) dX11_mark_14 (by decide) ht (fun h14 => ?_) (fun h14 => ?_)
    · skip
      refine q_iconst dX11_mark_22 ?_
      exact q_iret rfl dX11_mark_23 (⟨by unfold m_mark_v; (repeat first | rw [if_pos (by omega)] | rw [if_neg (by omega)]), _, rfl, by unfold m_mark_s; (repeat first | rw [if_pos (by omega)] | rw [if_neg (by omega)]); exact hR⟩)
    · skip
      refine q_iload_n dX11_mark_17 rfl ?_
      refine q_iconst dX11_mark_18 ?_
      refine q_icmp_le (tgt := 24) dX11_mark_19 (by decide) ht ⟨by decide, by decide⟩ (fun h19 => ?_) (fun h19 => ?_)
      · skip
        refine q_iload_n dX11_mark_24 rfl ?_
        refine q_iconst dX11_mark_25 ?_
        refine q_icmp_ne (tgt := 48) dX11_mark_26 (by decide) ht ⟨by decide, by decide⟩ (fun h26 => ?_) (fun h26 => ?_)
        · skip
          refine q_iload_n dX11_mark_48 rfl ?_
          refine q_iconst dX11_mark_49 ?_
          refine q_icmp_ne (tgt := 72) dX11_mark_50 (by decide) ht ⟨by decide, by decide⟩ (fun h50 => ?_) (fun h50 => ?_)
          · skip
            refine q_iload_n dX11_mark_72 rfl ?_
            refine q_iconst dX11_mark_73 ?_
            refine q_icmp_ne (tgt := 92) dX11_mark_74 (by decide) ht ⟨by decide, by decide⟩ (fun h74 => ?_) (fun h74 => ?_)
            · skip
              refine q_iload_n dX11_mark_92 rfl ?_
              refine q_iconst dX11_mark_93 ?_
              refine q_icmp_ne (tgt := 116) dX11_mark_94 (by decide) ht ⟨by decide, by decide⟩ (fun h94 => ?_) (fun h94 => ?_)
              · skip
                refine q_iload_n dX11_mark_116 rfl ?_
                refine q_iconst dX11_mark_117 ?_
                refine q_icmp_ne (tgt := 140) dX11_mark_118 (by decide) ht ⟨by decide, by decide⟩ (fun h118 => ?_) (fun h118 => ?_)
                · skip
                  refine q_aload_n dX11_mark_140 rfl ?_
                  refine q_iconst dX11_mark_141 ?_
                  refine q_cV [q_i 3] kX11_85_11 rfl (tX11_found w ξ B P g 3 (by decide) (by decide)) dX11_mark_142 rfl (by decide) (Nat.le_of_ble_eq_true rfl) rfl ?_
                  exact q_iret rfl dX11_mark_145 (by first | (exfalso; omega) | exact ⟨by unfold m_mark_v; (repeat first | rw [if_pos (by omega)] | rw [if_neg (by omega)]), _, rfl, by unfold m_mark_s; (repeat first | rw [if_pos (by omega)] | rw [if_neg (by omega)]); exact hR.find 3⟩)
                · skip
                  refine q_aload_n dX11_mark_121 rfl ?_
                  refine q_instX11_147 (hTs p (by omega) (by omega)).1 (x_pOi (p := p) (by omega) (by omega) (by omega)) dX11_mark_122 ?_
                  refine q_ifb_eq (tgt := 140) dX11_mark_125 (by decide) (fun h125 => ?_) (fun h125 => ?_)
                  · skip
                    refine q_aload_n dX11_mark_140 rfl ?_
                    refine q_iconst dX11_mark_141 ?_
                    refine q_cV [q_i 3] kX11_85_11 rfl (tX11_found w ξ B P g 3 (by decide) (by decide)) dX11_mark_142 rfl (by decide) (Nat.le_of_ble_eq_true rfl) rfl ?_
                    exact q_iret rfl dX11_mark_145 (by first | (exfalso; omega) | exact ⟨by unfold m_mark_v; (repeat first | rw [if_pos (by omega)] | rw [if_neg (by omega)]), _, rfl, by unfold m_mark_s; (repeat first | rw [if_pos (by omega)] | rw [if_neg (by omega)]); exact hR.find 3⟩)
                  · skip
                    refine q_aload_n dX11_mark_128 rfl ?_
                    refine q_castX11_147 h125 (x_pOi (p := p) (by omega) (by omega) (by omega)) dX11_mark_129 ?_
                    refine q_astore (lv' := [some (.ref 0), some (q_i p), some (q_i t), some (.ref (B + p.toNat)), some (.ref (B + p.toNat))]) dX11_mark_132 (by decide) rfl ?_
                    refine q_aload dX11_mark_134 rfl ?_
                    refine q_cP [] (kPX11_149 (by omega)) (x_pOi (p := p) (by omega) (by omega) (by omega)) (tX0_turnedNotches w ξ B P g p hp0 hp1 hPs (hTs p hp0 hp1) (hR.G (by omega)) (by omega)) dX11_mark_136 rfl (by decide) (Nat.le_of_ble_eq_true rfl) rfl ?_
                    exact q_iret rfl dX11_mark_139 (by first | (exfalso; omega) | exact ⟨by unfold m_mark_v; (repeat first | rw [if_pos (by omega)] | rw [if_neg (by omega)]); rw [hR.mk5 hp0 (by omega)], _, rfl, by unfold m_mark_s; (repeat first | rw [if_pos (by omega)] | rw [if_neg (by omega)]); exact hR⟩)
              · skip
                refine q_aload_n dX11_mark_97 rfl ?_
                refine q_instX11_142 (hTs p (by omega) (by omega)).1 (x_pOi (p := p) (by omega) (by omega) (by omega)) dX11_mark_98 ?_
                refine q_ifb_eq (tgt := 116) dX11_mark_101 (by decide) (fun h101 => ?_) (fun h101 => ?_)
                · skip
                  refine q_iload_n dX11_mark_116 rfl ?_
                  refine q_iconst dX11_mark_117 ?_
                  refine q_icmp_ne (tgt := 140) dX11_mark_118 (by decide) ht ⟨by decide, by decide⟩ (fun h118 => ?_) (fun h118 => ?_)
                  · skip
                    refine q_aload_n dX11_mark_140 rfl ?_
                    refine q_iconst dX11_mark_141 ?_
                    refine q_cV [q_i 3] kX11_85_11 rfl (tX11_found w ξ B P g 3 (by decide) (by decide)) dX11_mark_142 rfl (by decide) (Nat.le_of_ble_eq_true rfl) rfl ?_
                    exact q_iret rfl dX11_mark_145 (by first | (exfalso; omega) | exact ⟨by unfold m_mark_v; (repeat first | rw [if_pos (by omega)] | rw [if_neg (by omega)]), _, rfl, by unfold m_mark_s; (repeat first | rw [if_pos (by omega)] | rw [if_neg (by omega)]); exact hR.find 3⟩)
                  · skip
                    refine q_aload_n dX11_mark_121 rfl ?_
                    refine q_instX11_147 (hTs p (by omega) (by omega)).1 (x_pOi (p := p) (by omega) (by omega) (by omega)) dX11_mark_122 ?_
                    refine q_ifb_eq (tgt := 140) dX11_mark_125 (by decide) (fun h125 => ?_) (fun h125 => ?_)
                    · skip
                      refine q_aload_n dX11_mark_140 rfl ?_
                      refine q_iconst dX11_mark_141 ?_
                      refine q_cV [q_i 3] kX11_85_11 rfl (tX11_found w ξ B P g 3 (by decide) (by decide)) dX11_mark_142 rfl (by decide) (Nat.le_of_ble_eq_true rfl) rfl ?_
                      exact q_iret rfl dX11_mark_145 (by first | (exfalso; omega) | exact ⟨by unfold m_mark_v; (repeat first | rw [if_pos (by omega)] | rw [if_neg (by omega)]), _, rfl, by unfold m_mark_s; (repeat first | rw [if_pos (by omega)] | rw [if_neg (by omega)]); exact hR.find 3⟩)
                    · skip
                      refine q_aload_n dX11_mark_128 rfl ?_
                      refine q_castX11_147 h125 (x_pOi (p := p) (by omega) (by omega) (by omega)) dX11_mark_129 ?_
                      refine q_astore (lv' := [some (.ref 0), some (q_i p), some (q_i t), some (.ref (B + p.toNat)), some (.ref (B + p.toNat))]) dX11_mark_132 (by decide) rfl ?_
                      refine q_aload dX11_mark_134 rfl ?_
                      refine q_cP [] (kPX11_149 (by omega)) (x_pOi (p := p) (by omega) (by omega) (by omega)) (tX0_turnedNotches w ξ B P g p hp0 hp1 hPs (hTs p hp0 hp1) (hR.G (by omega)) (by omega)) dX11_mark_136 rfl (by decide) (Nat.le_of_ble_eq_true rfl) rfl ?_
                      exact q_iret rfl dX11_mark_139 (by first | (exfalso; omega) | exact ⟨by unfold m_mark_v; (repeat first | rw [if_pos (by omega)] | rw [if_neg (by omega)]); rw [hR.mk5 hp0 (by omega)], _, rfl, by unfold m_mark_s; (repeat first | rw [if_pos (by omega)] | rw [if_neg (by omega)]); exact hR⟩)
                · skip
                  refine q_aload_n dX11_mark_104 rfl ?_
                  refine q_castX11_142 h101 (x_pOi (p := p) (by omega) (by omega) (by omega)) dX11_mark_105 ?_
                  refine q_astore (lv' := [some (.ref 0), some (q_i p), some (q_i t), some (.ref (B + p.toNat)), some (.ref (B + p.toNat))]) dX11_mark_108 (by decide) rfl ?_
                  refine q_aload dX11_mark_110 rfl ?_
                  refine q_cP [] (kPX11_144 (by omega)) (x_pOi (p := p) (by omega) (by omega) (by omega)) (tX3_turnedWheels w ξ B P g p hp0 hp1 hPs (hTs p hp0 hp1) (hR.G (by omega)) (by omega)) dX11_mark_112 rfl (by decide) (Nat.le_of_ble_eq_true rfl) rfl ?_
                  exact q_iret rfl dX11_mark_115 (by first | (exfalso; omega) | exact ⟨by unfold m_mark_v; (repeat first | rw [if_pos (by omega)] | rw [if_neg (by omega)]); unfold z_two z_fst; rw [if_pos rfl, hn80]; split <;> first | rfl | (congr 2; omega), _, rfl, by unfold m_mark_s; (repeat first | rw [if_pos (by omega)] | rw [if_neg (by omega)]); exact hR⟩)
            · skip
              refine q_aload_n dX11_mark_77 rfl ?_
              refine q_instX11_137 (hTs p (by omega) (by omega)).1 (x_pOi (p := p) (by omega) (by omega) (by omega)) dX11_mark_78 ?_
              refine q_ifb_eq (tgt := 92) dX11_mark_81 (by decide) (fun h81 => ?_) (fun h81 => ?_)
              · skip
                refine q_iload_n dX11_mark_92 rfl ?_
                refine q_iconst dX11_mark_93 ?_
                refine q_icmp_ne (tgt := 116) dX11_mark_94 (by decide) ht ⟨by decide, by decide⟩ (fun h94 => ?_) (fun h94 => ?_)
                · skip
                  refine q_iload_n dX11_mark_116 rfl ?_
                  refine q_iconst dX11_mark_117 ?_
                  refine q_icmp_ne (tgt := 140) dX11_mark_118 (by decide) ht ⟨by decide, by decide⟩ (fun h118 => ?_) (fun h118 => ?_)
                  · skip
                    refine q_aload_n dX11_mark_140 rfl ?_
                    refine q_iconst dX11_mark_141 ?_
                    refine q_cV [q_i 3] kX11_85_11 rfl (tX11_found w ξ B P g 3 (by decide) (by decide)) dX11_mark_142 rfl (by decide) (Nat.le_of_ble_eq_true rfl) rfl ?_
                    exact q_iret rfl dX11_mark_145 (by first | (exfalso; omega) | exact ⟨by unfold m_mark_v; (repeat first | rw [if_pos (by omega)] | rw [if_neg (by omega)]), _, rfl, by unfold m_mark_s; (repeat first | rw [if_pos (by omega)] | rw [if_neg (by omega)]); exact hR.find 3⟩)
                  · skip
                    refine q_aload_n dX11_mark_121 rfl ?_
                    refine q_instX11_147 (hTs p (by omega) (by omega)).1 (x_pOi (p := p) (by omega) (by omega) (by omega)) dX11_mark_122 ?_
                    refine q_ifb_eq (tgt := 140) dX11_mark_125 (by decide) (fun h125 => ?_) (fun h125 => ?_)
                    · skip
                      refine q_aload_n dX11_mark_140 rfl ?_
                      refine q_iconst dX11_mark_141 ?_
                      refine q_cV [q_i 3] kX11_85_11 rfl (tX11_found w ξ B P g 3 (by decide) (by decide)) dX11_mark_142 rfl (by decide) (Nat.le_of_ble_eq_true rfl) rfl ?_
                      exact q_iret rfl dX11_mark_145 (by first | (exfalso; omega) | exact ⟨by unfold m_mark_v; (repeat first | rw [if_pos (by omega)] | rw [if_neg (by omega)]), _, rfl, by unfold m_mark_s; (repeat first | rw [if_pos (by omega)] | rw [if_neg (by omega)]); exact hR.find 3⟩)
                    · skip
                      refine q_aload_n dX11_mark_128 rfl ?_
                      refine q_castX11_147 h125 (x_pOi (p := p) (by omega) (by omega) (by omega)) dX11_mark_129 ?_
                      refine q_astore (lv' := [some (.ref 0), some (q_i p), some (q_i t), some (.ref (B + p.toNat)), some (.ref (B + p.toNat))]) dX11_mark_132 (by decide) rfl ?_
                      refine q_aload dX11_mark_134 rfl ?_
                      refine q_cP [] (kPX11_149 (by omega)) (x_pOi (p := p) (by omega) (by omega) (by omega)) (tX0_turnedNotches w ξ B P g p hp0 hp1 hPs (hTs p hp0 hp1) (hR.G (by omega)) (by omega)) dX11_mark_136 rfl (by decide) (Nat.le_of_ble_eq_true rfl) rfl ?_
                      exact q_iret rfl dX11_mark_139 (by first | (exfalso; omega) | exact ⟨by unfold m_mark_v; (repeat first | rw [if_pos (by omega)] | rw [if_neg (by omega)]); rw [hR.mk5 hp0 (by omega)], _, rfl, by unfold m_mark_s; (repeat first | rw [if_pos (by omega)] | rw [if_neg (by omega)]); exact hR⟩)
                · skip
                  refine q_aload_n dX11_mark_97 rfl ?_
                  refine q_instX11_142 (hTs p (by omega) (by omega)).1 (x_pOi (p := p) (by omega) (by omega) (by omega)) dX11_mark_98 ?_
                  refine q_ifb_eq (tgt := 116) dX11_mark_101 (by decide) (fun h101 => ?_) (fun h101 => ?_)
                  · skip
                    refine q_iload_n dX11_mark_116 rfl ?_
                    refine q_iconst dX11_mark_117 ?_
                    refine q_icmp_ne (tgt := 140) dX11_mark_118 (by decide) ht ⟨by decide, by decide⟩ (fun h118 => ?_) (fun h118 => ?_)
                    · skip
                      refine q_aload_n dX11_mark_140 rfl ?_
                      refine q_iconst dX11_mark_141 ?_
                      refine q_cV [q_i 3] kX11_85_11 rfl (tX11_found w ξ B P g 3 (by decide) (by decide)) dX11_mark_142 rfl (by decide) (Nat.le_of_ble_eq_true rfl) rfl ?_
                      exact q_iret rfl dX11_mark_145 (by first | (exfalso; omega) | exact ⟨by unfold m_mark_v; (repeat first | rw [if_pos (by omega)] | rw [if_neg (by omega)]), _, rfl, by unfold m_mark_s; (repeat first | rw [if_pos (by omega)] | rw [if_neg (by omega)]); exact hR.find 3⟩)
                    · skip
                      refine q_aload_n dX11_mark_121 rfl ?_
                      refine q_instX11_147 (hTs p (by omega) (by omega)).1 (x_pOi (p := p) (by omega) (by omega) (by omega)) dX11_mark_122 ?_
                      refine q_ifb_eq (tgt := 140) dX11_mark_125 (by decide) (fun h125 => ?_) (fun h125 => ?_)
                      · skip
                        refine q_aload_n dX11_mark_140 rfl ?_
                        refine q_iconst dX11_mark_141 ?_
                        refine q_cV [q_i 3] kX11_85_11 rfl (tX11_found w ξ B P g 3 (by decide) (by decide)) dX11_mark_142 rfl (by decide) (Nat.le_of_ble_eq_true rfl) rfl ?_
                        exact q_iret rfl dX11_mark_145 (by first | (exfalso; omega) | exact ⟨by unfold m_mark_v; (repeat first | rw [if_pos (by omega)] | rw [if_neg (by omega)]), _, rfl, by unfold m_mark_s; (repeat first | rw [if_pos (by omega)] | rw [if_neg (by omega)]); exact hR.find 3⟩)
                      · skip
                        refine q_aload_n dX11_mark_128 rfl ?_
                        refine q_castX11_147 h125 (x_pOi (p := p) (by omega) (by omega) (by omega)) dX11_mark_129 ?_
                        refine q_astore (lv' := [some (.ref 0), some (q_i p), some (q_i t), some (.ref (B + p.toNat)), some (.ref (B + p.toNat))]) dX11_mark_132 (by decide) rfl ?_
                        refine q_aload dX11_mark_134 rfl ?_
                        refine q_cP [] (kPX11_149 (by omega)) (x_pOi (p := p) (by omega) (by omega) (by omega)) (tX0_turnedNotches w ξ B P g p hp0 hp1 hPs (hTs p hp0 hp1) (hR.G (by omega)) (by omega)) dX11_mark_136 rfl (by decide) (Nat.le_of_ble_eq_true rfl) rfl ?_
                        exact q_iret rfl dX11_mark_139 (by first | (exfalso; omega) | exact ⟨by unfold m_mark_v; (repeat first | rw [if_pos (by omega)] | rw [if_neg (by omega)]); rw [hR.mk5 hp0 (by omega)], _, rfl, by unfold m_mark_s; (repeat first | rw [if_pos (by omega)] | rw [if_neg (by omega)]); exact hR⟩)
                  · skip
                    refine q_aload_n dX11_mark_104 rfl ?_
                    refine q_castX11_142 h101 (x_pOi (p := p) (by omega) (by omega) (by omega)) dX11_mark_105 ?_
                    refine q_astore (lv' := [some (.ref 0), some (q_i p), some (q_i t), some (.ref (B + p.toNat)), some (.ref (B + p.toNat))]) dX11_mark_108 (by decide) rfl ?_
                    refine q_aload dX11_mark_110 rfl ?_
                    refine q_cP [] (kPX11_144 (by omega)) (x_pOi (p := p) (by omega) (by omega) (by omega)) (tX3_turnedWheels w ξ B P g p hp0 hp1 hPs (hTs p hp0 hp1) (hR.G (by omega)) (by omega)) dX11_mark_112 rfl (by decide) (Nat.le_of_ble_eq_true rfl) rfl ?_
                    exact q_iret rfl dX11_mark_115 (by first | (exfalso; omega) | exact ⟨by unfold m_mark_v; (repeat first | rw [if_pos (by omega)] | rw [if_neg (by omega)]); unfold z_two z_fst; rw [if_pos rfl, hn80]; split <;> first | rfl | (congr 2; omega), _, rfl, by unfold m_mark_s; (repeat first | rw [if_pos (by omega)] | rw [if_neg (by omega)]); exact hR⟩)
              · skip
                refine q_aload_n dX11_mark_84 rfl ?_
                refine q_get (v := .ref 7) fX11_34_11 rfl rfl dX11_mark_85 ?_
                refine q_cV [] kX11_139_8 rfl (tX8_howManyCanBe w ξ B P g (show 0 ≤ ξ 8 2 ∧ ξ 8 2 ≤ 216 by omega) (fun c h0 h1 => ⟨(hV c h0 h1).1, Int.le_trans (hV c h0 h1).2 (by decide)⟩)) dX11_mark_88 rfl (by decide) (Nat.le_of_ble_eq_true rfl) rfl ?_
                exact q_iret rfl dX11_mark_91 (by first | (exfalso; omega) | exact ⟨by unfold m_mark_v; (repeat first | rw [if_pos (by omega)] | rw [if_neg (by omega)]); rw [hR.zpos]; rfl, _, rfl, by unfold m_mark_s; (repeat first | rw [if_pos (by omega)] | rw [if_neg (by omega)]); exact hR⟩)
          · skip
            refine q_aload_n dX11_mark_53 rfl ?_
            refine q_instX11_132 (hTs p (by omega) (by omega)).1 (x_pOi (p := p) (by omega) (by omega) (by omega)) dX11_mark_54 ?_
            refine q_ifb_eq (tgt := 72) dX11_mark_57 (by decide) (fun h57 => ?_) (fun h57 => ?_)
            · skip
              refine q_iload_n dX11_mark_72 rfl ?_
              refine q_iconst dX11_mark_73 ?_
              refine q_icmp_ne (tgt := 92) dX11_mark_74 (by decide) ht ⟨by decide, by decide⟩ (fun h74 => ?_) (fun h74 => ?_)
              · skip
                refine q_iload_n dX11_mark_92 rfl ?_
                refine q_iconst dX11_mark_93 ?_
                refine q_icmp_ne (tgt := 116) dX11_mark_94 (by decide) ht ⟨by decide, by decide⟩ (fun h94 => ?_) (fun h94 => ?_)
                · skip
                  refine q_iload_n dX11_mark_116 rfl ?_
                  refine q_iconst dX11_mark_117 ?_
                  refine q_icmp_ne (tgt := 140) dX11_mark_118 (by decide) ht ⟨by decide, by decide⟩ (fun h118 => ?_) (fun h118 => ?_)
                  · skip
                    refine q_aload_n dX11_mark_140 rfl ?_
                    refine q_iconst dX11_mark_141 ?_
                    refine q_cV [q_i 3] kX11_85_11 rfl (tX11_found w ξ B P g 3 (by decide) (by decide)) dX11_mark_142 rfl (by decide) (Nat.le_of_ble_eq_true rfl) rfl ?_
                    exact q_iret rfl dX11_mark_145 (by first | (exfalso; omega) | exact ⟨by unfold m_mark_v; (repeat first | rw [if_pos (by omega)] | rw [if_neg (by omega)]), _, rfl, by unfold m_mark_s; (repeat first | rw [if_pos (by omega)] | rw [if_neg (by omega)]); exact hR.find 3⟩)
                  · skip
                    refine q_aload_n dX11_mark_121 rfl ?_
                    refine q_instX11_147 (hTs p (by omega) (by omega)).1 (x_pOi (p := p) (by omega) (by omega) (by omega)) dX11_mark_122 ?_
                    refine q_ifb_eq (tgt := 140) dX11_mark_125 (by decide) (fun h125 => ?_) (fun h125 => ?_)
                    · skip
                      refine q_aload_n dX11_mark_140 rfl ?_
                      refine q_iconst dX11_mark_141 ?_
                      refine q_cV [q_i 3] kX11_85_11 rfl (tX11_found w ξ B P g 3 (by decide) (by decide)) dX11_mark_142 rfl (by decide) (Nat.le_of_ble_eq_true rfl) rfl ?_
                      exact q_iret rfl dX11_mark_145 (by first | (exfalso; omega) | exact ⟨by unfold m_mark_v; (repeat first | rw [if_pos (by omega)] | rw [if_neg (by omega)]), _, rfl, by unfold m_mark_s; (repeat first | rw [if_pos (by omega)] | rw [if_neg (by omega)]); exact hR.find 3⟩)
                    · skip
                      refine q_aload_n dX11_mark_128 rfl ?_
                      refine q_castX11_147 h125 (x_pOi (p := p) (by omega) (by omega) (by omega)) dX11_mark_129 ?_
                      refine q_astore (lv' := [some (.ref 0), some (q_i p), some (q_i t), some (.ref (B + p.toNat)), some (.ref (B + p.toNat))]) dX11_mark_132 (by decide) rfl ?_
                      refine q_aload dX11_mark_134 rfl ?_
                      refine q_cP [] (kPX11_149 (by omega)) (x_pOi (p := p) (by omega) (by omega) (by omega)) (tX0_turnedNotches w ξ B P g p hp0 hp1 hPs (hTs p hp0 hp1) (hR.G (by omega)) (by omega)) dX11_mark_136 rfl (by decide) (Nat.le_of_ble_eq_true rfl) rfl ?_
                      exact q_iret rfl dX11_mark_139 (by first | (exfalso; omega) | exact ⟨by unfold m_mark_v; (repeat first | rw [if_pos (by omega)] | rw [if_neg (by omega)]); rw [hR.mk5 hp0 (by omega)], _, rfl, by unfold m_mark_s; (repeat first | rw [if_pos (by omega)] | rw [if_neg (by omega)]); exact hR⟩)
                · skip
                  refine q_aload_n dX11_mark_97 rfl ?_
                  refine q_instX11_142 (hTs p (by omega) (by omega)).1 (x_pOi (p := p) (by omega) (by omega) (by omega)) dX11_mark_98 ?_
                  refine q_ifb_eq (tgt := 116) dX11_mark_101 (by decide) (fun h101 => ?_) (fun h101 => ?_)
                  · skip
                    refine q_iload_n dX11_mark_116 rfl ?_
                    refine q_iconst dX11_mark_117 ?_
                    refine q_icmp_ne (tgt := 140) dX11_mark_118 (by decide) ht ⟨by decide, by decide⟩ (fun h118 => ?_) (fun h118 => ?_)
                    · skip
                      refine q_aload_n dX11_mark_140 rfl ?_
                      refine q_iconst dX11_mark_141 ?_
                      refine q_cV [q_i 3] kX11_85_11 rfl (tX11_found w ξ B P g 3 (by decide) (by decide)) dX11_mark_142 rfl (by decide) (Nat.le_of_ble_eq_true rfl) rfl ?_
                      exact q_iret rfl dX11_mark_145 (by first | (exfalso; omega) | exact ⟨by unfold m_mark_v; (repeat first | rw [if_pos (by omega)] | rw [if_neg (by omega)]), _, rfl, by unfold m_mark_s; (repeat first | rw [if_pos (by omega)] | rw [if_neg (by omega)]); exact hR.find 3⟩)
                    · skip
                      refine q_aload_n dX11_mark_121 rfl ?_
                      refine q_instX11_147 (hTs p (by omega) (by omega)).1 (x_pOi (p := p) (by omega) (by omega) (by omega)) dX11_mark_122 ?_
                      refine q_ifb_eq (tgt := 140) dX11_mark_125 (by decide) (fun h125 => ?_) (fun h125 => ?_)
                      · skip
                        refine q_aload_n dX11_mark_140 rfl ?_
                        refine q_iconst dX11_mark_141 ?_
                        refine q_cV [q_i 3] kX11_85_11 rfl (tX11_found w ξ B P g 3 (by decide) (by decide)) dX11_mark_142 rfl (by decide) (Nat.le_of_ble_eq_true rfl) rfl ?_
                        exact q_iret rfl dX11_mark_145 (by first | (exfalso; omega) | exact ⟨by unfold m_mark_v; (repeat first | rw [if_pos (by omega)] | rw [if_neg (by omega)]), _, rfl, by unfold m_mark_s; (repeat first | rw [if_pos (by omega)] | rw [if_neg (by omega)]); exact hR.find 3⟩)
                      · skip
                        refine q_aload_n dX11_mark_128 rfl ?_
                        refine q_castX11_147 h125 (x_pOi (p := p) (by omega) (by omega) (by omega)) dX11_mark_129 ?_
                        refine q_astore (lv' := [some (.ref 0), some (q_i p), some (q_i t), some (.ref (B + p.toNat)), some (.ref (B + p.toNat))]) dX11_mark_132 (by decide) rfl ?_
                        refine q_aload dX11_mark_134 rfl ?_
                        refine q_cP [] (kPX11_149 (by omega)) (x_pOi (p := p) (by omega) (by omega) (by omega)) (tX0_turnedNotches w ξ B P g p hp0 hp1 hPs (hTs p hp0 hp1) (hR.G (by omega)) (by omega)) dX11_mark_136 rfl (by decide) (Nat.le_of_ble_eq_true rfl) rfl ?_
                        exact q_iret rfl dX11_mark_139 (by first | (exfalso; omega) | exact ⟨by unfold m_mark_v; (repeat first | rw [if_pos (by omega)] | rw [if_neg (by omega)]); rw [hR.mk5 hp0 (by omega)], _, rfl, by unfold m_mark_s; (repeat first | rw [if_pos (by omega)] | rw [if_neg (by omega)]); exact hR⟩)
                  · skip
                    refine q_aload_n dX11_mark_104 rfl ?_
                    refine q_castX11_142 h101 (x_pOi (p := p) (by omega) (by omega) (by omega)) dX11_mark_105 ?_
                    refine q_astore (lv' := [some (.ref 0), some (q_i p), some (q_i t), some (.ref (B + p.toNat)), some (.ref (B + p.toNat))]) dX11_mark_108 (by decide) rfl ?_
                    refine q_aload dX11_mark_110 rfl ?_
                    refine q_cP [] (kPX11_144 (by omega)) (x_pOi (p := p) (by omega) (by omega) (by omega)) (tX3_turnedWheels w ξ B P g p hp0 hp1 hPs (hTs p hp0 hp1) (hR.G (by omega)) (by omega)) dX11_mark_112 rfl (by decide) (Nat.le_of_ble_eq_true rfl) rfl ?_
                    exact q_iret rfl dX11_mark_115 (by first | (exfalso; omega) | exact ⟨by unfold m_mark_v; (repeat first | rw [if_pos (by omega)] | rw [if_neg (by omega)]); unfold z_two z_fst; rw [if_pos rfl, hn80]; split <;> first | rfl | (congr 2; omega), _, rfl, by unfold m_mark_s; (repeat first | rw [if_pos (by omega)] | rw [if_neg (by omega)]); exact hR⟩)
              · skip
                refine q_aload_n dX11_mark_77 rfl ?_
                refine q_instX11_137 (hTs p (by omega) (by omega)).1 (x_pOi (p := p) (by omega) (by omega) (by omega)) dX11_mark_78 ?_
                refine q_ifb_eq (tgt := 92) dX11_mark_81 (by decide) (fun h81 => ?_) (fun h81 => ?_)
                · skip
                  refine q_iload_n dX11_mark_92 rfl ?_
                  refine q_iconst dX11_mark_93 ?_
                  refine q_icmp_ne (tgt := 116) dX11_mark_94 (by decide) ht ⟨by decide, by decide⟩ (fun h94 => ?_) (fun h94 => ?_)
                  · skip
                    refine q_iload_n dX11_mark_116 rfl ?_
                    refine q_iconst dX11_mark_117 ?_
                    refine q_icmp_ne (tgt := 140) dX11_mark_118 (by decide) ht ⟨by decide, by decide⟩ (fun h118 => ?_) (fun h118 => ?_)
                    · skip
                      refine q_aload_n dX11_mark_140 rfl ?_
                      refine q_iconst dX11_mark_141 ?_
                      refine q_cV [q_i 3] kX11_85_11 rfl (tX11_found w ξ B P g 3 (by decide) (by decide)) dX11_mark_142 rfl (by decide) (Nat.le_of_ble_eq_true rfl) rfl ?_
                      exact q_iret rfl dX11_mark_145 (by first | (exfalso; omega) | exact ⟨by unfold m_mark_v; (repeat first | rw [if_pos (by omega)] | rw [if_neg (by omega)]), _, rfl, by unfold m_mark_s; (repeat first | rw [if_pos (by omega)] | rw [if_neg (by omega)]); exact hR.find 3⟩)
                    · skip
                      refine q_aload_n dX11_mark_121 rfl ?_
                      refine q_instX11_147 (hTs p (by omega) (by omega)).1 (x_pOi (p := p) (by omega) (by omega) (by omega)) dX11_mark_122 ?_
                      refine q_ifb_eq (tgt := 140) dX11_mark_125 (by decide) (fun h125 => ?_) (fun h125 => ?_)
                      · skip
                        refine q_aload_n dX11_mark_140 rfl ?_
                        refine q_iconst dX11_mark_141 ?_
                        refine q_cV [q_i 3] kX11_85_11 rfl (tX11_found w ξ B P g 3 (by decide) (by decide)) dX11_mark_142 rfl (by decide) (Nat.le_of_ble_eq_true rfl) rfl ?_
                        exact q_iret rfl dX11_mark_145 (by first | (exfalso; omega) | exact ⟨by unfold m_mark_v; (repeat first | rw [if_pos (by omega)] | rw [if_neg (by omega)]), _, rfl, by unfold m_mark_s; (repeat first | rw [if_pos (by omega)] | rw [if_neg (by omega)]); exact hR.find 3⟩)
                      · skip
                        refine q_aload_n dX11_mark_128 rfl ?_
                        refine q_castX11_147 h125 (x_pOi (p := p) (by omega) (by omega) (by omega)) dX11_mark_129 ?_
                        refine q_astore (lv' := [some (.ref 0), some (q_i p), some (q_i t), some (.ref (B + p.toNat)), some (.ref (B + p.toNat))]) dX11_mark_132 (by decide) rfl ?_
                        refine q_aload dX11_mark_134 rfl ?_
                        refine q_cP [] (kPX11_149 (by omega)) (x_pOi (p := p) (by omega) (by omega) (by omega)) (tX0_turnedNotches w ξ B P g p hp0 hp1 hPs (hTs p hp0 hp1) (hR.G (by omega)) (by omega)) dX11_mark_136 rfl (by decide) (Nat.le_of_ble_eq_true rfl) rfl ?_
                        exact q_iret rfl dX11_mark_139 (by first | (exfalso; omega) | exact ⟨by unfold m_mark_v; (repeat first | rw [if_pos (by omega)] | rw [if_neg (by omega)]); rw [hR.mk5 hp0 (by omega)], _, rfl, by unfold m_mark_s; (repeat first | rw [if_pos (by omega)] | rw [if_neg (by omega)]); exact hR⟩)
                  · skip
                    refine q_aload_n dX11_mark_97 rfl ?_
                    refine q_instX11_142 (hTs p (by omega) (by omega)).1 (x_pOi (p := p) (by omega) (by omega) (by omega)) dX11_mark_98 ?_
                    refine q_ifb_eq (tgt := 116) dX11_mark_101 (by decide) (fun h101 => ?_) (fun h101 => ?_)
                    · skip
                      refine q_iload_n dX11_mark_116 rfl ?_
                      refine q_iconst dX11_mark_117 ?_
                      refine q_icmp_ne (tgt := 140) dX11_mark_118 (by decide) ht ⟨by decide, by decide⟩ (fun h118 => ?_) (fun h118 => ?_)
                      · skip
                        refine q_aload_n dX11_mark_140 rfl ?_
                        refine q_iconst dX11_mark_141 ?_
                        refine q_cV [q_i 3] kX11_85_11 rfl (tX11_found w ξ B P g 3 (by decide) (by decide)) dX11_mark_142 rfl (by decide) (Nat.le_of_ble_eq_true rfl) rfl ?_
                        exact q_iret rfl dX11_mark_145 (by first | (exfalso; omega) | exact ⟨by unfold m_mark_v; (repeat first | rw [if_pos (by omega)] | rw [if_neg (by omega)]), _, rfl, by unfold m_mark_s; (repeat first | rw [if_pos (by omega)] | rw [if_neg (by omega)]); exact hR.find 3⟩)
                      · skip
                        refine q_aload_n dX11_mark_121 rfl ?_
                        refine q_instX11_147 (hTs p (by omega) (by omega)).1 (x_pOi (p := p) (by omega) (by omega) (by omega)) dX11_mark_122 ?_
                        refine q_ifb_eq (tgt := 140) dX11_mark_125 (by decide) (fun h125 => ?_) (fun h125 => ?_)
                        · skip
                          refine q_aload_n dX11_mark_140 rfl ?_
                          refine q_iconst dX11_mark_141 ?_
                          refine q_cV [q_i 3] kX11_85_11 rfl (tX11_found w ξ B P g 3 (by decide) (by decide)) dX11_mark_142 rfl (by decide) (Nat.le_of_ble_eq_true rfl) rfl ?_
                          exact q_iret rfl dX11_mark_145 (by first | (exfalso; omega) | exact ⟨by unfold m_mark_v; (repeat first | rw [if_pos (by omega)] | rw [if_neg (by omega)]), _, rfl, by unfold m_mark_s; (repeat first | rw [if_pos (by omega)] | rw [if_neg (by omega)]); exact hR.find 3⟩)
                        · skip
                          refine q_aload_n dX11_mark_128 rfl ?_
                          refine q_castX11_147 h125 (x_pOi (p := p) (by omega) (by omega) (by omega)) dX11_mark_129 ?_
                          refine q_astore (lv' := [some (.ref 0), some (q_i p), some (q_i t), some (.ref (B + p.toNat)), some (.ref (B + p.toNat))]) dX11_mark_132 (by decide) rfl ?_
                          refine q_aload dX11_mark_134 rfl ?_
                          refine q_cP [] (kPX11_149 (by omega)) (x_pOi (p := p) (by omega) (by omega) (by omega)) (tX0_turnedNotches w ξ B P g p hp0 hp1 hPs (hTs p hp0 hp1) (hR.G (by omega)) (by omega)) dX11_mark_136 rfl (by decide) (Nat.le_of_ble_eq_true rfl) rfl ?_
                          exact q_iret rfl dX11_mark_139 (by first | (exfalso; omega) | exact ⟨by unfold m_mark_v; (repeat first | rw [if_pos (by omega)] | rw [if_neg (by omega)]); rw [hR.mk5 hp0 (by omega)], _, rfl, by unfold m_mark_s; (repeat first | rw [if_pos (by omega)] | rw [if_neg (by omega)]); exact hR⟩)
                    · skip
                      refine q_aload_n dX11_mark_104 rfl ?_
                      refine q_castX11_142 h101 (x_pOi (p := p) (by omega) (by omega) (by omega)) dX11_mark_105 ?_
                      refine q_astore (lv' := [some (.ref 0), some (q_i p), some (q_i t), some (.ref (B + p.toNat)), some (.ref (B + p.toNat))]) dX11_mark_108 (by decide) rfl ?_
                      refine q_aload dX11_mark_110 rfl ?_
                      refine q_cP [] (kPX11_144 (by omega)) (x_pOi (p := p) (by omega) (by omega) (by omega)) (tX3_turnedWheels w ξ B P g p hp0 hp1 hPs (hTs p hp0 hp1) (hR.G (by omega)) (by omega)) dX11_mark_112 rfl (by decide) (Nat.le_of_ble_eq_true rfl) rfl ?_
                      exact q_iret rfl dX11_mark_115 (by first | (exfalso; omega) | exact ⟨by unfold m_mark_v; (repeat first | rw [if_pos (by omega)] | rw [if_neg (by omega)]); unfold z_two z_fst; rw [if_pos rfl, hn80]; split <;> first | rfl | (congr 2; omega), _, rfl, by unfold m_mark_s; (repeat first | rw [if_pos (by omega)] | rw [if_neg (by omega)]); exact hR⟩)
                · skip
                  refine q_aload_n dX11_mark_84 rfl ?_
                  refine q_get (v := .ref 7) fX11_34_11 rfl rfl dX11_mark_85 ?_
                  refine q_cV [] kX11_139_8 rfl (tX8_howManyCanBe w ξ B P g (show 0 ≤ ξ 8 2 ∧ ξ 8 2 ≤ 216 by omega) (fun c h0 h1 => ⟨(hV c h0 h1).1, Int.le_trans (hV c h0 h1).2 (by decide)⟩)) dX11_mark_88 rfl (by decide) (Nat.le_of_ble_eq_true rfl) rfl ?_
                  exact q_iret rfl dX11_mark_91 (by first | (exfalso; omega) | exact ⟨by unfold m_mark_v; (repeat first | rw [if_pos (by omega)] | rw [if_neg (by omega)]); rw [hR.zpos]; rfl, _, rfl, by unfold m_mark_s; (repeat first | rw [if_pos (by omega)] | rw [if_neg (by omega)]); exact hR⟩)
            · skip
              refine q_aload_n dX11_mark_60 rfl ?_
              refine q_castX11_132 h57 (x_pOi (p := p) (by omega) (by omega) (by omega)) dX11_mark_61 ?_
              refine q_astore (lv' := [some (.ref 0), some (q_i p), some (q_i t), some (.ref (B + p.toNat)), some (.ref (B + p.toNat))]) dX11_mark_64 (by decide) rfl ?_
              refine q_aload dX11_mark_66 rfl ?_
              refine q_cP [] (kPX11_134 (by omega)) (x_pOi (p := p) (by omega) (by omega) (by omega)) (tX1_waysLeavingFirst w ξ B P g p hp0 hp1 hPs (hTs p hp0 hp1) (hR.G (by omega)) (by omega)) dX11_mark_68 rfl (by decide) (Nat.le_of_ble_eq_true rfl) rfl ?_
              exact q_iret rfl dX11_mark_71 (by first | (exfalso; omega) | exact ⟨by unfold m_mark_v; (repeat first | rw [if_pos (by omega)] | rw [if_neg (by omega)]); rw [hR.mk2 hp0 (by omega)], _, rfl, by unfold m_mark_s; (repeat first | rw [if_pos (by omega)] | rw [if_neg (by omega)]); exact hR⟩)
        · skip
          refine q_aload_n dX11_mark_29 rfl ?_
          refine q_instX11_126 (hTs p (by omega) (by omega)).1 (x_pOi (p := p) (by omega) (by omega) (by omega)) dX11_mark_30 ?_
          refine q_ifb_eq (tgt := 48) dX11_mark_33 (by decide) (fun h33 => ?_) (fun h33 => ?_)
          · skip
            refine q_iload_n dX11_mark_48 rfl ?_
            refine q_iconst dX11_mark_49 ?_
            refine q_icmp_ne (tgt := 72) dX11_mark_50 (by decide) ht ⟨by decide, by decide⟩ (fun h50 => ?_) (fun h50 => ?_)
            · skip
              refine q_iload_n dX11_mark_72 rfl ?_
              refine q_iconst dX11_mark_73 ?_
              refine q_icmp_ne (tgt := 92) dX11_mark_74 (by decide) ht ⟨by decide, by decide⟩ (fun h74 => ?_) (fun h74 => ?_)
              · skip
                refine q_iload_n dX11_mark_92 rfl ?_
                refine q_iconst dX11_mark_93 ?_
                refine q_icmp_ne (tgt := 116) dX11_mark_94 (by decide) ht ⟨by decide, by decide⟩ (fun h94 => ?_) (fun h94 => ?_)
                · skip
                  refine q_iload_n dX11_mark_116 rfl ?_
                  refine q_iconst dX11_mark_117 ?_
                  refine q_icmp_ne (tgt := 140) dX11_mark_118 (by decide) ht ⟨by decide, by decide⟩ (fun h118 => ?_) (fun h118 => ?_)
                  · skip
                    refine q_aload_n dX11_mark_140 rfl ?_
                    refine q_iconst dX11_mark_141 ?_
                    refine q_cV [q_i 3] kX11_85_11 rfl (tX11_found w ξ B P g 3 (by decide) (by decide)) dX11_mark_142 rfl (by decide) (Nat.le_of_ble_eq_true rfl) rfl ?_
                    exact q_iret rfl dX11_mark_145 (by first | (exfalso; omega) | exact ⟨by unfold m_mark_v; (repeat first | rw [if_pos (by omega)] | rw [if_neg (by omega)]), _, rfl, by unfold m_mark_s; (repeat first | rw [if_pos (by omega)] | rw [if_neg (by omega)]); exact hR.find 3⟩)
                  · skip
                    refine q_aload_n dX11_mark_121 rfl ?_
                    refine q_instX11_147 (hTs p (by omega) (by omega)).1 (x_pOi (p := p) (by omega) (by omega) (by omega)) dX11_mark_122 ?_
                    refine q_ifb_eq (tgt := 140) dX11_mark_125 (by decide) (fun h125 => ?_) (fun h125 => ?_)
                    · skip
                      refine q_aload_n dX11_mark_140 rfl ?_
                      refine q_iconst dX11_mark_141 ?_
                      refine q_cV [q_i 3] kX11_85_11 rfl (tX11_found w ξ B P g 3 (by decide) (by decide)) dX11_mark_142 rfl (by decide) (Nat.le_of_ble_eq_true rfl) rfl ?_
                      exact q_iret rfl dX11_mark_145 (by first | (exfalso; omega) | exact ⟨by unfold m_mark_v; (repeat first | rw [if_pos (by omega)] | rw [if_neg (by omega)]), _, rfl, by unfold m_mark_s; (repeat first | rw [if_pos (by omega)] | rw [if_neg (by omega)]); exact hR.find 3⟩)
                    · skip
                      refine q_aload_n dX11_mark_128 rfl ?_
                      refine q_castX11_147 h125 (x_pOi (p := p) (by omega) (by omega) (by omega)) dX11_mark_129 ?_
                      refine q_astore (lv' := [some (.ref 0), some (q_i p), some (q_i t), some (.ref (B + p.toNat)), some (.ref (B + p.toNat))]) dX11_mark_132 (by decide) rfl ?_
                      refine q_aload dX11_mark_134 rfl ?_
                      refine q_cP [] (kPX11_149 (by omega)) (x_pOi (p := p) (by omega) (by omega) (by omega)) (tX0_turnedNotches w ξ B P g p hp0 hp1 hPs (hTs p hp0 hp1) (hR.G (by omega)) (by omega)) dX11_mark_136 rfl (by decide) (Nat.le_of_ble_eq_true rfl) rfl ?_
                      exact q_iret rfl dX11_mark_139 (by first | (exfalso; omega) | exact ⟨by unfold m_mark_v; (repeat first | rw [if_pos (by omega)] | rw [if_neg (by omega)]); rw [hR.mk5 hp0 (by omega)], _, rfl, by unfold m_mark_s; (repeat first | rw [if_pos (by omega)] | rw [if_neg (by omega)]); exact hR⟩)
                · skip
                  refine q_aload_n dX11_mark_97 rfl ?_
                  refine q_instX11_142 (hTs p (by omega) (by omega)).1 (x_pOi (p := p) (by omega) (by omega) (by omega)) dX11_mark_98 ?_
                  refine q_ifb_eq (tgt := 116) dX11_mark_101 (by decide) (fun h101 => ?_) (fun h101 => ?_)
                  · skip
                    refine q_iload_n dX11_mark_116 rfl ?_
                    refine q_iconst dX11_mark_117 ?_
                    refine q_icmp_ne (tgt := 140) dX11_mark_118 (by decide) ht ⟨by decide, by decide⟩ (fun h118 => ?_) (fun h118 => ?_)
                    · skip
                      refine q_aload_n dX11_mark_140 rfl ?_
                      refine q_iconst dX11_mark_141 ?_
                      refine q_cV [q_i 3] kX11_85_11 rfl (tX11_found w ξ B P g 3 (by decide) (by decide)) dX11_mark_142 rfl (by decide) (Nat.le_of_ble_eq_true rfl) rfl ?_
                      exact q_iret rfl dX11_mark_145 (by first | (exfalso; omega) | exact ⟨by unfold m_mark_v; (repeat first | rw [if_pos (by omega)] | rw [if_neg (by omega)]), _, rfl, by unfold m_mark_s; (repeat first | rw [if_pos (by omega)] | rw [if_neg (by omega)]); exact hR.find 3⟩)
                    · skip
                      refine q_aload_n dX11_mark_121 rfl ?_
                      refine q_instX11_147 (hTs p (by omega) (by omega)).1 (x_pOi (p := p) (by omega) (by omega) (by omega)) dX11_mark_122 ?_
                      refine q_ifb_eq (tgt := 140) dX11_mark_125 (by decide) (fun h125 => ?_) (fun h125 => ?_)
                      · skip
                        refine q_aload_n dX11_mark_140 rfl ?_
                        refine q_iconst dX11_mark_141 ?_
                        refine q_cV [q_i 3] kX11_85_11 rfl (tX11_found w ξ B P g 3 (by decide) (by decide)) dX11_mark_142 rfl (by decide) (Nat.le_of_ble_eq_true rfl) rfl ?_
                        exact q_iret rfl dX11_mark_145 (by first | (exfalso; omega) | exact ⟨by unfold m_mark_v; (repeat first | rw [if_pos (by omega)] | rw [if_neg (by omega)]), _, rfl, by unfold m_mark_s; (repeat first | rw [if_pos (by omega)] | rw [if_neg (by omega)]); exact hR.find 3⟩)
                      · skip
                        refine q_aload_n dX11_mark_128 rfl ?_
                        refine q_castX11_147 h125 (x_pOi (p := p) (by omega) (by omega) (by omega)) dX11_mark_129 ?_
                        refine q_astore (lv' := [some (.ref 0), some (q_i p), some (q_i t), some (.ref (B + p.toNat)), some (.ref (B + p.toNat))]) dX11_mark_132 (by decide) rfl ?_
                        refine q_aload dX11_mark_134 rfl ?_
                        refine q_cP [] (kPX11_149 (by omega)) (x_pOi (p := p) (by omega) (by omega) (by omega)) (tX0_turnedNotches w ξ B P g p hp0 hp1 hPs (hTs p hp0 hp1) (hR.G (by omega)) (by omega)) dX11_mark_136 rfl (by decide) (Nat.le_of_ble_eq_true rfl) rfl ?_
                        exact q_iret rfl dX11_mark_139 (by first | (exfalso; omega) | exact ⟨by unfold m_mark_v; (repeat first | rw [if_pos (by omega)] | rw [if_neg (by omega)]); rw [hR.mk5 hp0 (by omega)], _, rfl, by unfold m_mark_s; (repeat first | rw [if_pos (by omega)] | rw [if_neg (by omega)]); exact hR⟩)
                  · skip
                    refine q_aload_n dX11_mark_104 rfl ?_
                    refine q_castX11_142 h101 (x_pOi (p := p) (by omega) (by omega) (by omega)) dX11_mark_105 ?_
                    refine q_astore (lv' := [some (.ref 0), some (q_i p), some (q_i t), some (.ref (B + p.toNat)), some (.ref (B + p.toNat))]) dX11_mark_108 (by decide) rfl ?_
                    refine q_aload dX11_mark_110 rfl ?_
                    refine q_cP [] (kPX11_144 (by omega)) (x_pOi (p := p) (by omega) (by omega) (by omega)) (tX3_turnedWheels w ξ B P g p hp0 hp1 hPs (hTs p hp0 hp1) (hR.G (by omega)) (by omega)) dX11_mark_112 rfl (by decide) (Nat.le_of_ble_eq_true rfl) rfl ?_
                    exact q_iret rfl dX11_mark_115 (by first | (exfalso; omega) | exact ⟨by unfold m_mark_v; (repeat first | rw [if_pos (by omega)] | rw [if_neg (by omega)]); unfold z_two z_fst; rw [if_pos rfl, hn80]; split <;> first | rfl | (congr 2; omega), _, rfl, by unfold m_mark_s; (repeat first | rw [if_pos (by omega)] | rw [if_neg (by omega)]); exact hR⟩)
              · skip
                refine q_aload_n dX11_mark_77 rfl ?_
                refine q_instX11_137 (hTs p (by omega) (by omega)).1 (x_pOi (p := p) (by omega) (by omega) (by omega)) dX11_mark_78 ?_
                refine q_ifb_eq (tgt := 92) dX11_mark_81 (by decide) (fun h81 => ?_) (fun h81 => ?_)
                · skip
                  refine q_iload_n dX11_mark_92 rfl ?_
                  refine q_iconst dX11_mark_93 ?_
                  refine q_icmp_ne (tgt := 116) dX11_mark_94 (by decide) ht ⟨by decide, by decide⟩ (fun h94 => ?_) (fun h94 => ?_)
                  · skip
                    refine q_iload_n dX11_mark_116 rfl ?_
                    refine q_iconst dX11_mark_117 ?_
                    refine q_icmp_ne (tgt := 140) dX11_mark_118 (by decide) ht ⟨by decide, by decide⟩ (fun h118 => ?_) (fun h118 => ?_)
                    · skip
                      refine q_aload_n dX11_mark_140 rfl ?_
                      refine q_iconst dX11_mark_141 ?_
                      refine q_cV [q_i 3] kX11_85_11 rfl (tX11_found w ξ B P g 3 (by decide) (by decide)) dX11_mark_142 rfl (by decide) (Nat.le_of_ble_eq_true rfl) rfl ?_
                      exact q_iret rfl dX11_mark_145 (by first | (exfalso; omega) | exact ⟨by unfold m_mark_v; (repeat first | rw [if_pos (by omega)] | rw [if_neg (by omega)]), _, rfl, by unfold m_mark_s; (repeat first | rw [if_pos (by omega)] | rw [if_neg (by omega)]); exact hR.find 3⟩)
                    · skip
                      refine q_aload_n dX11_mark_121 rfl ?_
                      refine q_instX11_147 (hTs p (by omega) (by omega)).1 (x_pOi (p := p) (by omega) (by omega) (by omega)) dX11_mark_122 ?_
                      refine q_ifb_eq (tgt := 140) dX11_mark_125 (by decide) (fun h125 => ?_) (fun h125 => ?_)
                      · skip
                        refine q_aload_n dX11_mark_140 rfl ?_
                        refine q_iconst dX11_mark_141 ?_
                        refine q_cV [q_i 3] kX11_85_11 rfl (tX11_found w ξ B P g 3 (by decide) (by decide)) dX11_mark_142 rfl (by decide) (Nat.le_of_ble_eq_true rfl) rfl ?_
                        exact q_iret rfl dX11_mark_145 (by first | (exfalso; omega) | exact ⟨by unfold m_mark_v; (repeat first | rw [if_pos (by omega)] | rw [if_neg (by omega)]), _, rfl, by unfold m_mark_s; (repeat first | rw [if_pos (by omega)] | rw [if_neg (by omega)]); exact hR.find 3⟩)
                      · skip
                        refine q_aload_n dX11_mark_128 rfl ?_
                        refine q_castX11_147 h125 (x_pOi (p := p) (by omega) (by omega) (by omega)) dX11_mark_129 ?_
                        refine q_astore (lv' := [some (.ref 0), some (q_i p), some (q_i t), some (.ref (B + p.toNat)), some (.ref (B + p.toNat))]) dX11_mark_132 (by decide) rfl ?_
                        refine q_aload dX11_mark_134 rfl ?_
                        refine q_cP [] (kPX11_149 (by omega)) (x_pOi (p := p) (by omega) (by omega) (by omega)) (tX0_turnedNotches w ξ B P g p hp0 hp1 hPs (hTs p hp0 hp1) (hR.G (by omega)) (by omega)) dX11_mark_136 rfl (by decide) (Nat.le_of_ble_eq_true rfl) rfl ?_
                        exact q_iret rfl dX11_mark_139 (by first | (exfalso; omega) | exact ⟨by unfold m_mark_v; (repeat first | rw [if_pos (by omega)] | rw [if_neg (by omega)]); rw [hR.mk5 hp0 (by omega)], _, rfl, by unfold m_mark_s; (repeat first | rw [if_pos (by omega)] | rw [if_neg (by omega)]); exact hR⟩)
                  · skip
                    refine q_aload_n dX11_mark_97 rfl ?_
                    refine q_instX11_142 (hTs p (by omega) (by omega)).1 (x_pOi (p := p) (by omega) (by omega) (by omega)) dX11_mark_98 ?_
                    refine q_ifb_eq (tgt := 116) dX11_mark_101 (by decide) (fun h101 => ?_) (fun h101 => ?_)
                    · skip
                      refine q_iload_n dX11_mark_116 rfl ?_
                      refine q_iconst dX11_mark_117 ?_
                      refine q_icmp_ne (tgt := 140) dX11_mark_118 (by decide) ht ⟨by decide, by decide⟩ (fun h118 => ?_) (fun h118 => ?_)
                      · skip
                        refine q_aload_n dX11_mark_140 rfl ?_
                        refine q_iconst dX11_mark_141 ?_
                        refine q_cV [q_i 3] kX11_85_11 rfl (tX11_found w ξ B P g 3 (by decide) (by decide)) dX11_mark_142 rfl (by decide) (Nat.le_of_ble_eq_true rfl) rfl ?_
                        exact q_iret rfl dX11_mark_145 (by first | (exfalso; omega) | exact ⟨by unfold m_mark_v; (repeat first | rw [if_pos (by omega)] | rw [if_neg (by omega)]), _, rfl, by unfold m_mark_s; (repeat first | rw [if_pos (by omega)] | rw [if_neg (by omega)]); exact hR.find 3⟩)
                      · skip
                        refine q_aload_n dX11_mark_121 rfl ?_
                        refine q_instX11_147 (hTs p (by omega) (by omega)).1 (x_pOi (p := p) (by omega) (by omega) (by omega)) dX11_mark_122 ?_
                        refine q_ifb_eq (tgt := 140) dX11_mark_125 (by decide) (fun h125 => ?_) (fun h125 => ?_)
                        · skip
                          refine q_aload_n dX11_mark_140 rfl ?_
                          refine q_iconst dX11_mark_141 ?_
                          refine q_cV [q_i 3] kX11_85_11 rfl (tX11_found w ξ B P g 3 (by decide) (by decide)) dX11_mark_142 rfl (by decide) (Nat.le_of_ble_eq_true rfl) rfl ?_
                          exact q_iret rfl dX11_mark_145 (by first | (exfalso; omega) | exact ⟨by unfold m_mark_v; (repeat first | rw [if_pos (by omega)] | rw [if_neg (by omega)]), _, rfl, by unfold m_mark_s; (repeat first | rw [if_pos (by omega)] | rw [if_neg (by omega)]); exact hR.find 3⟩)
                        · skip
                          refine q_aload_n dX11_mark_128 rfl ?_
                          refine q_castX11_147 h125 (x_pOi (p := p) (by omega) (by omega) (by omega)) dX11_mark_129 ?_
                          refine q_astore (lv' := [some (.ref 0), some (q_i p), some (q_i t), some (.ref (B + p.toNat)), some (.ref (B + p.toNat))]) dX11_mark_132 (by decide) rfl ?_
                          refine q_aload dX11_mark_134 rfl ?_
                          refine q_cP [] (kPX11_149 (by omega)) (x_pOi (p := p) (by omega) (by omega) (by omega)) (tX0_turnedNotches w ξ B P g p hp0 hp1 hPs (hTs p hp0 hp1) (hR.G (by omega)) (by omega)) dX11_mark_136 rfl (by decide) (Nat.le_of_ble_eq_true rfl) rfl ?_
                          exact q_iret rfl dX11_mark_139 (by first | (exfalso; omega) | exact ⟨by unfold m_mark_v; (repeat first | rw [if_pos (by omega)] | rw [if_neg (by omega)]); rw [hR.mk5 hp0 (by omega)], _, rfl, by unfold m_mark_s; (repeat first | rw [if_pos (by omega)] | rw [if_neg (by omega)]); exact hR⟩)
                    · skip
                      refine q_aload_n dX11_mark_104 rfl ?_
                      refine q_castX11_142 h101 (x_pOi (p := p) (by omega) (by omega) (by omega)) dX11_mark_105 ?_
                      refine q_astore (lv' := [some (.ref 0), some (q_i p), some (q_i t), some (.ref (B + p.toNat)), some (.ref (B + p.toNat))]) dX11_mark_108 (by decide) rfl ?_
                      refine q_aload dX11_mark_110 rfl ?_
                      refine q_cP [] (kPX11_144 (by omega)) (x_pOi (p := p) (by omega) (by omega) (by omega)) (tX3_turnedWheels w ξ B P g p hp0 hp1 hPs (hTs p hp0 hp1) (hR.G (by omega)) (by omega)) dX11_mark_112 rfl (by decide) (Nat.le_of_ble_eq_true rfl) rfl ?_
                      exact q_iret rfl dX11_mark_115 (by first | (exfalso; omega) | exact ⟨by unfold m_mark_v; (repeat first | rw [if_pos (by omega)] | rw [if_neg (by omega)]); unfold z_two z_fst; rw [if_pos rfl, hn80]; split <;> first | rfl | (congr 2; omega), _, rfl, by unfold m_mark_s; (repeat first | rw [if_pos (by omega)] | rw [if_neg (by omega)]); exact hR⟩)
                · skip
                  refine q_aload_n dX11_mark_84 rfl ?_
                  refine q_get (v := .ref 7) fX11_34_11 rfl rfl dX11_mark_85 ?_
                  refine q_cV [] kX11_139_8 rfl (tX8_howManyCanBe w ξ B P g (show 0 ≤ ξ 8 2 ∧ ξ 8 2 ≤ 216 by omega) (fun c h0 h1 => ⟨(hV c h0 h1).1, Int.le_trans (hV c h0 h1).2 (by decide)⟩)) dX11_mark_88 rfl (by decide) (Nat.le_of_ble_eq_true rfl) rfl ?_
                  exact q_iret rfl dX11_mark_91 (by first | (exfalso; omega) | exact ⟨by unfold m_mark_v; (repeat first | rw [if_pos (by omega)] | rw [if_neg (by omega)]); rw [hR.zpos]; rfl, _, rfl, by unfold m_mark_s; (repeat first | rw [if_pos (by omega)] | rw [if_neg (by omega)]); exact hR⟩)
            · skip
              refine q_aload_n dX11_mark_53 rfl ?_
              refine q_instX11_132 (hTs p (by omega) (by omega)).1 (x_pOi (p := p) (by omega) (by omega) (by omega)) dX11_mark_54 ?_
              refine q_ifb_eq (tgt := 72) dX11_mark_57 (by decide) (fun h57 => ?_) (fun h57 => ?_)
              · skip
                refine q_iload_n dX11_mark_72 rfl ?_
                refine q_iconst dX11_mark_73 ?_
                refine q_icmp_ne (tgt := 92) dX11_mark_74 (by decide) ht ⟨by decide, by decide⟩ (fun h74 => ?_) (fun h74 => ?_)
                · skip
                  refine q_iload_n dX11_mark_92 rfl ?_
                  refine q_iconst dX11_mark_93 ?_
                  refine q_icmp_ne (tgt := 116) dX11_mark_94 (by decide) ht ⟨by decide, by decide⟩ (fun h94 => ?_) (fun h94 => ?_)
                  · skip
                    refine q_iload_n dX11_mark_116 rfl ?_
                    refine q_iconst dX11_mark_117 ?_
                    refine q_icmp_ne (tgt := 140) dX11_mark_118 (by decide) ht ⟨by decide, by decide⟩ (fun h118 => ?_) (fun h118 => ?_)
                    · skip
                      refine q_aload_n dX11_mark_140 rfl ?_
                      refine q_iconst dX11_mark_141 ?_
                      refine q_cV [q_i 3] kX11_85_11 rfl (tX11_found w ξ B P g 3 (by decide) (by decide)) dX11_mark_142 rfl (by decide) (Nat.le_of_ble_eq_true rfl) rfl ?_
                      exact q_iret rfl dX11_mark_145 (by first | (exfalso; omega) | exact ⟨by unfold m_mark_v; (repeat first | rw [if_pos (by omega)] | rw [if_neg (by omega)]), _, rfl, by unfold m_mark_s; (repeat first | rw [if_pos (by omega)] | rw [if_neg (by omega)]); exact hR.find 3⟩)
                    · skip
                      refine q_aload_n dX11_mark_121 rfl ?_
                      refine q_instX11_147 (hTs p (by omega) (by omega)).1 (x_pOi (p := p) (by omega) (by omega) (by omega)) dX11_mark_122 ?_
                      refine q_ifb_eq (tgt := 140) dX11_mark_125 (by decide) (fun h125 => ?_) (fun h125 => ?_)
                      · skip
                        refine q_aload_n dX11_mark_140 rfl ?_
                        refine q_iconst dX11_mark_141 ?_
                        refine q_cV [q_i 3] kX11_85_11 rfl (tX11_found w ξ B P g 3 (by decide) (by decide)) dX11_mark_142 rfl (by decide) (Nat.le_of_ble_eq_true rfl) rfl ?_
                        exact q_iret rfl dX11_mark_145 (by first | (exfalso; omega) | exact ⟨by unfold m_mark_v; (repeat first | rw [if_pos (by omega)] | rw [if_neg (by omega)]), _, rfl, by unfold m_mark_s; (repeat first | rw [if_pos (by omega)] | rw [if_neg (by omega)]); exact hR.find 3⟩)
                      · skip
                        refine q_aload_n dX11_mark_128 rfl ?_
                        refine q_castX11_147 h125 (x_pOi (p := p) (by omega) (by omega) (by omega)) dX11_mark_129 ?_
                        refine q_astore (lv' := [some (.ref 0), some (q_i p), some (q_i t), some (.ref (B + p.toNat)), some (.ref (B + p.toNat))]) dX11_mark_132 (by decide) rfl ?_
                        refine q_aload dX11_mark_134 rfl ?_
                        refine q_cP [] (kPX11_149 (by omega)) (x_pOi (p := p) (by omega) (by omega) (by omega)) (tX0_turnedNotches w ξ B P g p hp0 hp1 hPs (hTs p hp0 hp1) (hR.G (by omega)) (by omega)) dX11_mark_136 rfl (by decide) (Nat.le_of_ble_eq_true rfl) rfl ?_
                        exact q_iret rfl dX11_mark_139 (by first | (exfalso; omega) | exact ⟨by unfold m_mark_v; (repeat first | rw [if_pos (by omega)] | rw [if_neg (by omega)]); rw [hR.mk5 hp0 (by omega)], _, rfl, by unfold m_mark_s; (repeat first | rw [if_pos (by omega)] | rw [if_neg (by omega)]); exact hR⟩)
                  · skip
                    refine q_aload_n dX11_mark_97 rfl ?_
                    refine q_instX11_142 (hTs p (by omega) (by omega)).1 (x_pOi (p := p) (by omega) (by omega) (by omega)) dX11_mark_98 ?_
                    refine q_ifb_eq (tgt := 116) dX11_mark_101 (by decide) (fun h101 => ?_) (fun h101 => ?_)
                    · skip
                      refine q_iload_n dX11_mark_116 rfl ?_
                      refine q_iconst dX11_mark_117 ?_
                      refine q_icmp_ne (tgt := 140) dX11_mark_118 (by decide) ht ⟨by decide, by decide⟩ (fun h118 => ?_) (fun h118 => ?_)
                      · skip
                        refine q_aload_n dX11_mark_140 rfl ?_
                        refine q_iconst dX11_mark_141 ?_
                        refine q_cV [q_i 3] kX11_85_11 rfl (tX11_found w ξ B P g 3 (by decide) (by decide)) dX11_mark_142 rfl (by decide) (Nat.le_of_ble_eq_true rfl) rfl ?_
                        exact q_iret rfl dX11_mark_145 (by first | (exfalso; omega) | exact ⟨by unfold m_mark_v; (repeat first | rw [if_pos (by omega)] | rw [if_neg (by omega)]), _, rfl, by unfold m_mark_s; (repeat first | rw [if_pos (by omega)] | rw [if_neg (by omega)]); exact hR.find 3⟩)
                      · skip
                        refine q_aload_n dX11_mark_121 rfl ?_
                        refine q_instX11_147 (hTs p (by omega) (by omega)).1 (x_pOi (p := p) (by omega) (by omega) (by omega)) dX11_mark_122 ?_
                        refine q_ifb_eq (tgt := 140) dX11_mark_125 (by decide) (fun h125 => ?_) (fun h125 => ?_)
                        · skip
                          refine q_aload_n dX11_mark_140 rfl ?_
                          refine q_iconst dX11_mark_141 ?_
                          refine q_cV [q_i 3] kX11_85_11 rfl (tX11_found w ξ B P g 3 (by decide) (by decide)) dX11_mark_142 rfl (by decide) (Nat.le_of_ble_eq_true rfl) rfl ?_
                          exact q_iret rfl dX11_mark_145 (by first | (exfalso; omega) | exact ⟨by unfold m_mark_v; (repeat first | rw [if_pos (by omega)] | rw [if_neg (by omega)]), _, rfl, by unfold m_mark_s; (repeat first | rw [if_pos (by omega)] | rw [if_neg (by omega)]); exact hR.find 3⟩)
                        · skip
                          refine q_aload_n dX11_mark_128 rfl ?_
                          refine q_castX11_147 h125 (x_pOi (p := p) (by omega) (by omega) (by omega)) dX11_mark_129 ?_
                          refine q_astore (lv' := [some (.ref 0), some (q_i p), some (q_i t), some (.ref (B + p.toNat)), some (.ref (B + p.toNat))]) dX11_mark_132 (by decide) rfl ?_
                          refine q_aload dX11_mark_134 rfl ?_
                          refine q_cP [] (kPX11_149 (by omega)) (x_pOi (p := p) (by omega) (by omega) (by omega)) (tX0_turnedNotches w ξ B P g p hp0 hp1 hPs (hTs p hp0 hp1) (hR.G (by omega)) (by omega)) dX11_mark_136 rfl (by decide) (Nat.le_of_ble_eq_true rfl) rfl ?_
                          exact q_iret rfl dX11_mark_139 (by first | (exfalso; omega) | exact ⟨by unfold m_mark_v; (repeat first | rw [if_pos (by omega)] | rw [if_neg (by omega)]); rw [hR.mk5 hp0 (by omega)], _, rfl, by unfold m_mark_s; (repeat first | rw [if_pos (by omega)] | rw [if_neg (by omega)]); exact hR⟩)
                    · skip
                      refine q_aload_n dX11_mark_104 rfl ?_
                      refine q_castX11_142 h101 (x_pOi (p := p) (by omega) (by omega) (by omega)) dX11_mark_105 ?_
                      refine q_astore (lv' := [some (.ref 0), some (q_i p), some (q_i t), some (.ref (B + p.toNat)), some (.ref (B + p.toNat))]) dX11_mark_108 (by decide) rfl ?_
                      refine q_aload dX11_mark_110 rfl ?_
                      refine q_cP [] (kPX11_144 (by omega)) (x_pOi (p := p) (by omega) (by omega) (by omega)) (tX3_turnedWheels w ξ B P g p hp0 hp1 hPs (hTs p hp0 hp1) (hR.G (by omega)) (by omega)) dX11_mark_112 rfl (by decide) (Nat.le_of_ble_eq_true rfl) rfl ?_
                      exact q_iret rfl dX11_mark_115 (by first | (exfalso; omega) | exact ⟨by unfold m_mark_v; (repeat first | rw [if_pos (by omega)] | rw [if_neg (by omega)]); unfold z_two z_fst; rw [if_pos rfl, hn80]; split <;> first | rfl | (congr 2; omega), _, rfl, by unfold m_mark_s; (repeat first | rw [if_pos (by omega)] | rw [if_neg (by omega)]); exact hR⟩)
                · skip
                  refine q_aload_n dX11_mark_77 rfl ?_
                  refine q_instX11_137 (hTs p (by omega) (by omega)).1 (x_pOi (p := p) (by omega) (by omega) (by omega)) dX11_mark_78 ?_
                  refine q_ifb_eq (tgt := 92) dX11_mark_81 (by decide) (fun h81 => ?_) (fun h81 => ?_)
                  · skip
                    refine q_iload_n dX11_mark_92 rfl ?_
                    refine q_iconst dX11_mark_93 ?_
                    refine q_icmp_ne (tgt := 116) dX11_mark_94 (by decide) ht ⟨by decide, by decide⟩ (fun h94 => ?_) (fun h94 => ?_)
                    · skip
                      refine q_iload_n dX11_mark_116 rfl ?_
                      refine q_iconst dX11_mark_117 ?_
                      refine q_icmp_ne (tgt := 140) dX11_mark_118 (by decide) ht ⟨by decide, by decide⟩ (fun h118 => ?_) (fun h118 => ?_)
                      · skip
                        refine q_aload_n dX11_mark_140 rfl ?_
                        refine q_iconst dX11_mark_141 ?_
                        refine q_cV [q_i 3] kX11_85_11 rfl (tX11_found w ξ B P g 3 (by decide) (by decide)) dX11_mark_142 rfl (by decide) (Nat.le_of_ble_eq_true rfl) rfl ?_
                        exact q_iret rfl dX11_mark_145 (by first | (exfalso; omega) | exact ⟨by unfold m_mark_v; (repeat first | rw [if_pos (by omega)] | rw [if_neg (by omega)]), _, rfl, by unfold m_mark_s; (repeat first | rw [if_pos (by omega)] | rw [if_neg (by omega)]); exact hR.find 3⟩)
                      · skip
                        refine q_aload_n dX11_mark_121 rfl ?_
                        refine q_instX11_147 (hTs p (by omega) (by omega)).1 (x_pOi (p := p) (by omega) (by omega) (by omega)) dX11_mark_122 ?_
                        refine q_ifb_eq (tgt := 140) dX11_mark_125 (by decide) (fun h125 => ?_) (fun h125 => ?_)
                        · skip
                          refine q_aload_n dX11_mark_140 rfl ?_
                          refine q_iconst dX11_mark_141 ?_
                          refine q_cV [q_i 3] kX11_85_11 rfl (tX11_found w ξ B P g 3 (by decide) (by decide)) dX11_mark_142 rfl (by decide) (Nat.le_of_ble_eq_true rfl) rfl ?_
                          exact q_iret rfl dX11_mark_145 (by first | (exfalso; omega) | exact ⟨by unfold m_mark_v; (repeat first | rw [if_pos (by omega)] | rw [if_neg (by omega)]), _, rfl, by unfold m_mark_s; (repeat first | rw [if_pos (by omega)] | rw [if_neg (by omega)]); exact hR.find 3⟩)
                        · skip
                          refine q_aload_n dX11_mark_128 rfl ?_
                          refine q_castX11_147 h125 (x_pOi (p := p) (by omega) (by omega) (by omega)) dX11_mark_129 ?_
                          refine q_astore (lv' := [some (.ref 0), some (q_i p), some (q_i t), some (.ref (B + p.toNat)), some (.ref (B + p.toNat))]) dX11_mark_132 (by decide) rfl ?_
                          refine q_aload dX11_mark_134 rfl ?_
                          refine q_cP [] (kPX11_149 (by omega)) (x_pOi (p := p) (by omega) (by omega) (by omega)) (tX0_turnedNotches w ξ B P g p hp0 hp1 hPs (hTs p hp0 hp1) (hR.G (by omega)) (by omega)) dX11_mark_136 rfl (by decide) (Nat.le_of_ble_eq_true rfl) rfl ?_
                          exact q_iret rfl dX11_mark_139 (by first | (exfalso; omega) | exact ⟨by unfold m_mark_v; (repeat first | rw [if_pos (by omega)] | rw [if_neg (by omega)]); rw [hR.mk5 hp0 (by omega)], _, rfl, by unfold m_mark_s; (repeat first | rw [if_pos (by omega)] | rw [if_neg (by omega)]); exact hR⟩)
                    · skip
                      refine q_aload_n dX11_mark_97 rfl ?_
                      refine q_instX11_142 (hTs p (by omega) (by omega)).1 (x_pOi (p := p) (by omega) (by omega) (by omega)) dX11_mark_98 ?_
                      refine q_ifb_eq (tgt := 116) dX11_mark_101 (by decide) (fun h101 => ?_) (fun h101 => ?_)
                      · skip
                        refine q_iload_n dX11_mark_116 rfl ?_
                        refine q_iconst dX11_mark_117 ?_
                        refine q_icmp_ne (tgt := 140) dX11_mark_118 (by decide) ht ⟨by decide, by decide⟩ (fun h118 => ?_) (fun h118 => ?_)
                        · skip
                          refine q_aload_n dX11_mark_140 rfl ?_
                          refine q_iconst dX11_mark_141 ?_
                          refine q_cV [q_i 3] kX11_85_11 rfl (tX11_found w ξ B P g 3 (by decide) (by decide)) dX11_mark_142 rfl (by decide) (Nat.le_of_ble_eq_true rfl) rfl ?_
                          exact q_iret rfl dX11_mark_145 (by first | (exfalso; omega) | exact ⟨by unfold m_mark_v; (repeat first | rw [if_pos (by omega)] | rw [if_neg (by omega)]), _, rfl, by unfold m_mark_s; (repeat first | rw [if_pos (by omega)] | rw [if_neg (by omega)]); exact hR.find 3⟩)
                        · skip
                          refine q_aload_n dX11_mark_121 rfl ?_
                          refine q_instX11_147 (hTs p (by omega) (by omega)).1 (x_pOi (p := p) (by omega) (by omega) (by omega)) dX11_mark_122 ?_
                          refine q_ifb_eq (tgt := 140) dX11_mark_125 (by decide) (fun h125 => ?_) (fun h125 => ?_)
                          · skip
                            refine q_aload_n dX11_mark_140 rfl ?_
                            refine q_iconst dX11_mark_141 ?_
                            refine q_cV [q_i 3] kX11_85_11 rfl (tX11_found w ξ B P g 3 (by decide) (by decide)) dX11_mark_142 rfl (by decide) (Nat.le_of_ble_eq_true rfl) rfl ?_
                            exact q_iret rfl dX11_mark_145 (by first | (exfalso; omega) | exact ⟨by unfold m_mark_v; (repeat first | rw [if_pos (by omega)] | rw [if_neg (by omega)]), _, rfl, by unfold m_mark_s; (repeat first | rw [if_pos (by omega)] | rw [if_neg (by omega)]); exact hR.find 3⟩)
                          · skip
                            refine q_aload_n dX11_mark_128 rfl ?_
                            refine q_castX11_147 h125 (x_pOi (p := p) (by omega) (by omega) (by omega)) dX11_mark_129 ?_
                            refine q_astore (lv' := [some (.ref 0), some (q_i p), some (q_i t), some (.ref (B + p.toNat)), some (.ref (B + p.toNat))]) dX11_mark_132 (by decide) rfl ?_
                            refine q_aload dX11_mark_134 rfl ?_
                            refine q_cP [] (kPX11_149 (by omega)) (x_pOi (p := p) (by omega) (by omega) (by omega)) (tX0_turnedNotches w ξ B P g p hp0 hp1 hPs (hTs p hp0 hp1) (hR.G (by omega)) (by omega)) dX11_mark_136 rfl (by decide) (Nat.le_of_ble_eq_true rfl) rfl ?_
                            exact q_iret rfl dX11_mark_139 (by first | (exfalso; omega) | exact ⟨by unfold m_mark_v; (repeat first | rw [if_pos (by omega)] | rw [if_neg (by omega)]); rw [hR.mk5 hp0 (by omega)], _, rfl, by unfold m_mark_s; (repeat first | rw [if_pos (by omega)] | rw [if_neg (by omega)]); exact hR⟩)
                      · skip
                        refine q_aload_n dX11_mark_104 rfl ?_
                        refine q_castX11_142 h101 (x_pOi (p := p) (by omega) (by omega) (by omega)) dX11_mark_105 ?_
                        refine q_astore (lv' := [some (.ref 0), some (q_i p), some (q_i t), some (.ref (B + p.toNat)), some (.ref (B + p.toNat))]) dX11_mark_108 (by decide) rfl ?_
                        refine q_aload dX11_mark_110 rfl ?_
                        refine q_cP [] (kPX11_144 (by omega)) (x_pOi (p := p) (by omega) (by omega) (by omega)) (tX3_turnedWheels w ξ B P g p hp0 hp1 hPs (hTs p hp0 hp1) (hR.G (by omega)) (by omega)) dX11_mark_112 rfl (by decide) (Nat.le_of_ble_eq_true rfl) rfl ?_
                        exact q_iret rfl dX11_mark_115 (by first | (exfalso; omega) | exact ⟨by unfold m_mark_v; (repeat first | rw [if_pos (by omega)] | rw [if_neg (by omega)]); unfold z_two z_fst; rw [if_pos rfl, hn80]; split <;> first | rfl | (congr 2; omega), _, rfl, by unfold m_mark_s; (repeat first | rw [if_pos (by omega)] | rw [if_neg (by omega)]); exact hR⟩)
                  · skip
                    refine q_aload_n dX11_mark_84 rfl ?_
                    refine q_get (v := .ref 7) fX11_34_11 rfl rfl dX11_mark_85 ?_
                    refine q_cV [] kX11_139_8 rfl (tX8_howManyCanBe w ξ B P g (show 0 ≤ ξ 8 2 ∧ ξ 8 2 ≤ 216 by omega) (fun c h0 h1 => ⟨(hV c h0 h1).1, Int.le_trans (hV c h0 h1).2 (by decide)⟩)) dX11_mark_88 rfl (by decide) (Nat.le_of_ble_eq_true rfl) rfl ?_
                    exact q_iret rfl dX11_mark_91 (by first | (exfalso; omega) | exact ⟨by unfold m_mark_v; (repeat first | rw [if_pos (by omega)] | rw [if_neg (by omega)]); rw [hR.zpos]; rfl, _, rfl, by unfold m_mark_s; (repeat first | rw [if_pos (by omega)] | rw [if_neg (by omega)]); exact hR⟩)
              · skip
                refine q_aload_n dX11_mark_60 rfl ?_
                refine q_castX11_132 h57 (x_pOi (p := p) (by omega) (by omega) (by omega)) dX11_mark_61 ?_
                refine q_astore (lv' := [some (.ref 0), some (q_i p), some (q_i t), some (.ref (B + p.toNat)), some (.ref (B + p.toNat))]) dX11_mark_64 (by decide) rfl ?_
                refine q_aload dX11_mark_66 rfl ?_
                refine q_cP [] (kPX11_134 (by omega)) (x_pOi (p := p) (by omega) (by omega) (by omega)) (tX1_waysLeavingFirst w ξ B P g p hp0 hp1 hPs (hTs p hp0 hp1) (hR.G (by omega)) (by omega)) dX11_mark_68 rfl (by decide) (Nat.le_of_ble_eq_true rfl) rfl ?_
                exact q_iret rfl dX11_mark_71 (by first | (exfalso; omega) | exact ⟨by unfold m_mark_v; (repeat first | rw [if_pos (by omega)] | rw [if_neg (by omega)]); rw [hR.mk2 hp0 (by omega)], _, rfl, by unfold m_mark_s; (repeat first | rw [if_pos (by omega)] | rw [if_neg (by omega)]); exact hR⟩)
          · skip
            refine q_aload_n dX11_mark_36 rfl ?_
            refine q_castX11_126 h33 (x_pOi (p := p) (by omega) (by omega) (by omega)) dX11_mark_37 ?_
            refine q_astore (lv' := [some (.ref 0), some (q_i p), some (q_i t), some (.ref (B + p.toNat)), some (.ref (B + p.toNat))]) dX11_mark_40 (by decide) rfl ?_
            refine q_aload dX11_mark_42 rfl ?_
            refine q_cP [] (kPX11_128 (by omega)) (x_pOi (p := p) (by omega) (by omega) (by omega)) (tX4_unlikeSights w ξ B P g p hp0 hp1 hPs (hTs p hp0 hp1) (hR.G (by omega)) (by omega)) dX11_mark_44 rfl (by decide) (Nat.le_of_ble_eq_true rfl) rfl ?_
            exact q_iret rfl dX11_mark_47 (by first | (exfalso; omega) | exact ⟨by unfold m_mark_v; (repeat first | rw [if_pos (by omega)] | rw [if_neg (by omega)]); rw [hR.mk1 hp0 (by omega)], _, rfl, by unfold m_mark_s; (repeat first | rw [if_pos (by omega)] | rw [if_neg (by omega)]); exact hR⟩)
      · skip
        refine q_iconst dX11_mark_22 ?_
        exact q_iret rfl dX11_mark_23 (⟨by unfold m_mark_v; (repeat first | rw [if_pos (by omega)] | rw [if_neg (by omega)]), _, rfl, by unfold m_mark_s; (repeat first | rw [if_pos (by omega)] | rw [if_neg (by omega)]); exact hR⟩)
  · skip
    refine q_aload_n dX11_mark_0 rfl ?_
    refine q_get (v := .ref 7) fX11_34_11 rfl rfl dX11_mark_1 ?_
    refine q_iload_n dX11_mark_4 rfl ?_
    refine q_cV [q_i p] kX11_118_8 rfl (tX8_personAt_n w ξ B P g p (hp) (show ¬ (0 ≤ p ∧ p < ξ 7 0) by omega) hPs) dX11_mark_5 rfl (by decide) (Nat.le_of_ble_eq_true rfl) rfl ?_
    refine q_astore_nN (lv' := [some (.ref 0), some (q_i p), some (q_i t), some (.null), none]) dX11_mark_8 (by decide) rfl ?_
    refine q_aload_nN dX11_mark_9 rfl ?_
    refine q_ifnullN (tgt := 22) dX11_mark_10 (by decide) ?_
    refine q_iconst dX11_mark_22 ?_
    exact q_iret rfl dX11_mark_23 (⟨by unfold m_mark_v; (repeat first | rw [if_pos (by omega)] | rw [if_neg (by omega)]), _, rfl, by unfold m_mark_s; (repeat first | rw [if_pos (by omega)] | rw [if_neg (by omega)]); exact hR⟩)
set_option maxRecDepth 20000 in
theorem tX11_refusedTold_n (w : q_W) (ξ : m_S) (B P : Nat) (g : Int → Option Nat) (r : Int) (hr : q_r r) (hn : ¬ (0 ≤ r ∧ r < 6)) : q_D mX11_refusedTold 1 [.ref 0, q_i r] (x_w w ξ B P g) (some (q_i (-1))) (x_w w ξ B P g) := by
  refine q_T.of (lv := [some (.ref 0), some (q_i r), none, none]) (by decide) rfl (Nat.le_of_ble_eq_true rfl) ?_
  refine q_aload_n dX11_refusedTold_0 rfl ?_
  refine q_get (v := .ref 1) fX11_11_11 rfl rfl dX11_refusedTold_1 ?_
  refine q_iload_n dX11_refusedTold_4 rfl ?_
  refine q_cS [.ref 1, q_i r] kX11_60 (tX11_among_1n w ξ B P g r (hr) (by omega)) dX11_refusedTold_5 rfl (by decide) (Nat.le_of_ble_eq_true rfl) rfl ?_
  refine q_astore_nN (lv' := [some (.ref 0), some (q_i r), some (.null), none]) dX11_refusedTold_8 (by decide) rfl ?_
  refine q_aload_nN dX11_refusedTold_9 rfl ?_
  refine q_ifnonnullN dX11_refusedTold_10 ?_
  refine q_iconst dX11_refusedTold_13 ?_
  exact q_iret rfl dX11_refusedTold_14 (⟨rfl, rfl⟩)
set_option maxRecDepth 20000 in
theorem tX11_fits (w : q_W) (μ ξ : m_S) (B P : Nat) (g : Int → Option Nat) (hR : z_R μ ξ B P g) (r : Int) (hr : q_r r) : q_T mX11_fits 4 0 0 [.ref 0, q_i r] (x_w w ξ B P g) (z_Q w B P g (q_i (m_fits_v μ r)) (m_fits_s μ r)) := by
  refine q_T.of (lv := [some (.ref 0), some (q_i r), none, none]) (by decide) rfl (Nat.le_of_ble_eq_true rfl) ?_
  obtain ⟨hn7, hn80, hn81, hn82, hn10⟩ := hR.n
  have hSb := hR.Sh.b
  have hDb := hR.De.1
  have hPs := hR.Ps
  have hPs1 := hPs.1
  have hPs2 := hPs.2.1
  have hPs3 := hPs.2.2.1
  have hTs := hR.Ts
  have hV := hR.V
  by_cases hq0 : 0 ≤ r ∧ r < 6
  · skip
    obtain ⟨hr0, hr1⟩ := hq0
    have hzr := hR.rz (r := r) hr0 hr1
    refine q_aload_n dX11_fits_0 rfl ?_
    refine q_iload_n dX11_fits_1 rfl ?_
    refine q_cV [q_i r] kX11_277_11 rfl (tX11_refusedTold w ξ B P g r hr0 hr1 (by omega) (fun j a0 a1 => by rw [hR.ri hr0 hr1 a0 (by omega)]; exact hR.I.it _) hPs (by omega)) dX11_fits_2 rfl (by decide) (Nat.le_of_ble_eq_true rfl) rfl ?_
    refine q_istore_n (lv' := [some (.ref 0), some (q_i r), some (q_i (x_rt_v ξ (32 + 2 * r.toNat))), none]) dX11_fits_5 (by decide) rfl ?_
    refine q_iload_n dX11_fits_6 rfl ?_
    refine q_if_eq (tgt := 12) dX11_fits_7 (by decide) (show q_r (x_rt_v ξ (32 + 2 * r.toNat)) by rw [hR.rtv hr0 hr1]; exact m_nl_r μ r) (fun h7 => ?_) (fun h7 => ?_)
    · skip
      have hrs := x_rt_0 h7
      rw [hrs]
      have hnv : m_nl_v μ r = 0 := by rw [← hR.rtv hr0 hr1]; exact h7
      have hn0 := m_nl_0 hnv
      have hmG := hR.mG (by omega)
      have hmS := hmG.S
      have hG := hR.G (by omega)
      have htd := hR.told hr0 hr1 hnv
      have hts := hR.rts hr0 hr1
      rw [hrs] at hts
      refine q_aload_n dX11_fits_12 rfl ?_
      refine q_get (v := .ref 7) fX11_34_11 rfl rfl dX11_fits_13 ?_
      refine q_aload_n dX11_fits_16 rfl ?_
      refine q_get (v := .ref 1) fX11_11_11 rfl rfl dX11_fits_17 ?_
      refine q_iload_n dX11_fits_20 rfl ?_
      refine q_aald rfl (by decide) (by omega) (by omega) dX11_fits_21 ?_
      rw [x_rows_e (i := r) (by omega) (by omega)]
      show q_J _ _ _ _ _ _ _ (.ref (32 + 2 * r.toNat) :: _) _
      refine q_cVv [.ref (32 + 2 * r.toNat)] kX11_280_8 rfl (tX8_weighTold w ξ B P g (32 + 2 * r.toNat) (x_isR_rows hr0 hr1) (m_np μ r) htd.1 htd.2.1 (fun k k0 k1 => by have q := htd.2.2 k k0 k1; rw [q.1.1, q.1.2]; omega) hPs hTs hG) dX11_fits_22 rfl (by decide) (Nat.le_of_ble_eq_true rfl) rfl ?_
      refine q_aload_n dX11_fits_25 rfl ?_
      refine q_get (v := .ref 7) fX11_34_11 rfl rfl dX11_fits_26 ?_
      refine q_aload_n dX11_fits_29 rfl ?_
      refine q_get (v := .ref 7) fX11_34_11 rfl rfl dX11_fits_30 ?_
      refine q_get (v := .ref 15) fX11_271_8 rfl rfl dX11_fits_33 ?_
      refine q_cV [.ref 15] kX11_274_8 rfl (tX8_howManyAbove_15 w (m_u ξ 15 (x_tlf ξ (32 + 2 * r.toNat) (m_np μ r))) B P g (show 0 ≤ ξ 8 2 ∧ ξ 8 2 ≤ 216 by omega) (fun c h0 h1 => by have h1 : c < ξ 8 2 := h1; show 0 ≤ (x_tlf ξ (32 + 2 * r.toNat) (m_np μ r)) c ∧ (x_tlf ξ (32 + 2 * r.toNat) (m_np μ r)) c ≤ _; rw [hR.tlw hr0 hr1 hnv h0 (by omega)]; have q := hR.tlr hr0 hr1 hnv c; omega)) dX11_fits_36 rfl (by decide) (Nat.le_of_ble_eq_true rfl) rfl ?_
      show q_J _ _ _ _ _ _ _ [q_i (z_pos (x_tlf ξ (32 + 2 * r.toNat) (m_np μ r)) (ξ 8 2))] (x_w w (m_u ξ 15 (x_tlf ξ (32 + 2 * r.toNat) (m_np μ r))) B P g)
      refine q_istore_n (lv' := [some (.ref 0), some (q_i r), some (q_i (x_rt_v ξ (32 + 2 * r.toNat))), some (q_i (z_pos (x_tlf ξ (32 + 2 * r.toNat) (m_np μ r)) (ξ 8 2)))]) dX11_fits_39 (by decide) rfl ?_
      refine q_aload_n dX11_fits_40 rfl ?_
      refine q_iload_n dX11_fits_41 rfl ?_
      refine q_if_ne (tgt := 50) dX11_fits_42 (by decide) ⟨by have := z_pos_r (x_tlf ξ (32 + 2 * r.toNat) (m_np μ r)) (n := ξ 8 2) (by omega); omega, by have := z_pos_r (x_tlf ξ (32 + 2 * r.toNat) (m_np μ r)) (n := ξ 8 2) (by omega); omega⟩ (fun h42 => ?_) (fun h42 => ?_)
      · skip
        refine q_aload_n dX11_fits_50 rfl ?_
        refine q_get (v := .ref 7) fX11_34_11 rfl rfl dX11_fits_51 ?_
        refine q_aload_n dX11_fits_54 rfl ?_
        refine q_get (v := .ref 7) fX11_34_11 rfl rfl dX11_fits_55 ?_
        refine q_get (v := .ref 15) fX11_271_8 rfl rfl dX11_fits_58 ?_
        refine q_cV [.ref 15] kX11_284_8 rfl (tX8_firstAbove_15 w (m_u ξ 15 (x_tlf ξ (32 + 2 * r.toNat) (m_np μ r))) B P g (show 0 ≤ ξ 8 2 ∧ ξ 8 2 ≤ 216 by omega) (fun c h0 h1 => by have h1 : c < ξ 8 2 := h1; show 0 ≤ (x_tlf ξ (32 + 2 * r.toNat) (m_np μ r)) c ∧ (x_tlf ξ (32 + 2 * r.toNat) (m_np μ r)) c ≤ _; rw [hR.tlw hr0 hr1 hnv h0 (by omega)]; have q := hR.tlr hr0 hr1 hnv c; omega) (show (0:Int) < ξ 8 2 by omega)) dX11_fits_61 rfl (by decide) (Nat.le_of_ble_eq_true rfl) rfl ?_
        show q_J _ _ _ _ _ _ _ [q_i (z_fa (x_tlf ξ (32 + 2 * r.toNat) (m_np μ r)) (ξ 8 2)), .ref 0] (x_w w (m_u ξ 15 (x_tlf ξ (32 + 2 * r.toNat) (m_np μ r))) B P g)
        refine q_cVv [q_i (z_fa (x_tlf ξ (32 + 2 * r.toNat) (m_np μ r)) (ξ 8 2))] kX11_75_11 rfl (tX11_tellNumber w (m_u ξ 15 (x_tlf ξ (32 + 2 * r.toNat) (m_np μ r))) B P g (z_fa (x_tlf ξ (32 + 2 * r.toNat) (m_np μ r)) (ξ 8 2))) dX11_fits_64 rfl (by decide) (Nat.le_of_ble_eq_true rfl) rfl ?_
        refine q_iload_n dX11_fits_67 rfl ?_
        exact q_iret rfl dX11_fits_68 (⟨by unfold m_fits_v; rw [if_neg (by omega), if_neg (by omega)]; rw [← hR.tlp hr0 hr1 hnv], _, rfl, by unfold m_fits_s; rw [if_neg (by omega), if_neg (by omega)]; rw [hR.tlb hr0 hr1 hnv (by omega), if_neg (by omega)]; exact (hts.s15 _).tell _⟩)
      · skip
        refine q_bipush dX11_fits_45 ?_
        refine q_goto (tgt := 64) dX11_fits_47 (by decide) ?_
        refine q_cVv [q_i (-9)] kX11_75_11 rfl (tX11_tellNumber w (m_u ξ 15 (x_tlf ξ (32 + 2 * r.toNat) (m_np μ r))) B P g (-9)) dX11_fits_64 rfl (by decide) (Nat.le_of_ble_eq_true rfl) rfl ?_
        refine q_iload_n dX11_fits_67 rfl ?_
        exact q_iret rfl dX11_fits_68 (⟨by unfold m_fits_v; rw [if_neg (by omega), if_neg (by omega)]; rw [← hR.tlp hr0 hr1 hnv], _, rfl, by unfold m_fits_s; rw [if_neg (by omega), if_neg (by omega)]; rw [hR.tlb hr0 hr1 hnv (by omega), if_pos (by omega)]; exact (hts.s15 _).tell _⟩)
    · skip
      refine q_iload_n dX11_fits_10 rfl ?_
      exact q_iret rfl dX11_fits_11 (⟨by unfold m_fits_v; rw [if_neg (by omega), ← hR.rtv hr0 hr1, if_pos h7], _, rfl, by unfold m_fits_s; rw [if_neg (by omega), ← hR.rtv hr0 hr1, if_pos h7]; exact hR.rts hr0 hr1⟩)
  · skip
    refine q_aload_n dX11_fits_0 rfl ?_
    refine q_iload_n dX11_fits_1 rfl ?_
    refine q_cV [q_i r] kX11_277_11 rfl (tX11_refusedTold_n w ξ B P g r hr (by omega)) dX11_fits_2 rfl (by decide) (Nat.le_of_ble_eq_true rfl) rfl ?_
    refine q_istore_n (lv' := [some (.ref 0), some (q_i r), some (q_i (-1)), none]) dX11_fits_5 (by decide) rfl ?_
    refine q_iload_n dX11_fits_6 rfl ?_
    refine q_if_eq (tgt := 12) dX11_fits_7 (by decide) ⟨by decide, by decide⟩ (fun h7 => False.elim (by omega)) (fun h7 => ?_)
    refine q_iload_n dX11_fits_10 rfl ?_
    exact q_iret rfl dX11_fits_11 (⟨by unfold m_fits_v; (repeat first | rw [if_pos (by omega)] | rw [if_neg (by omega)]), _, rfl, by unfold m_fits_s; (repeat first | rw [if_pos (by omega)] | rw [if_neg (by omega)]); exact hR⟩)
set_option maxRecDepth 20000 in
theorem tX11_chance (w : q_W) (μ ξ : m_S) (B P : Nat) (g : Int → Option Nat) (hR : z_R μ ξ B P g) (r : Int) (hr : q_r r) : q_T mX11_chance 4 0 0 [.ref 0, q_i r] (x_w w ξ B P g) (z_Q w B P g (q_i (m_chance_v μ r)) (m_chance_s μ r)) := by
  refine q_T.of (lv := [some (.ref 0), some (q_i r), none]) (by decide) rfl (Nat.le_of_ble_eq_true rfl) ?_
  obtain ⟨hn7, hn80, hn81, hn82, hn10⟩ := hR.n
  have hSb := hR.Sh.b
  have hDb := hR.De.1
  have hPs := hR.Ps
  have hPs1 := hPs.1
  have hPs2 := hPs.2.1
  have hPs3 := hPs.2.2.1
  have hTs := hR.Ts
  have hV := hR.V
  by_cases hq0 : 0 ≤ r ∧ r < 6
  · skip
    obtain ⟨hr0, hr1⟩ := hq0
    have hzr := hR.rz (r := r) hr0 hr1
    refine q_aload_n dX11_chance_0 rfl ?_
    refine q_iload_n dX11_chance_1 rfl ?_
    refine q_cV [q_i r] kX11_277_11 rfl (tX11_refusedTold w ξ B P g r hr0 hr1 (by omega) (fun j a0 a1 => by rw [hR.ri hr0 hr1 a0 (by omega)]; exact hR.I.it _) hPs (by omega)) dX11_chance_2 rfl (by decide) (Nat.le_of_ble_eq_true rfl) rfl ?_
    refine q_istore_n (lv' := [some (.ref 0), some (q_i r), some (q_i (x_rt_v ξ (32 + 2 * r.toNat)))]) dX11_chance_5 (by decide) rfl ?_
    refine q_iload_n dX11_chance_6 rfl ?_
    refine q_if_eq (tgt := 12) dX11_chance_7 (by decide) (show q_r (x_rt_v ξ (32 + 2 * r.toNat)) by rw [hR.rtv hr0 hr1]; exact m_nl_r μ r) (fun h7 => ?_) (fun h7 => ?_)
    · skip
      have hrs := x_rt_0 h7
      rw [hrs]
      have hnv : m_nl_v μ r = 0 := by rw [← hR.rtv hr0 hr1]; exact h7
      have hn0 := m_nl_0 hnv
      have hmG := hR.mG (by omega)
      have hmS := hmG.S
      have hG := hR.G (by omega)
      have htd := hR.told hr0 hr1 hnv
      have hts := hR.rts hr0 hr1
      rw [hrs] at hts
      refine q_aload_n dX11_chance_12 rfl ?_
      refine q_get (v := .ref 7) fX11_34_11 rfl rfl dX11_chance_13 ?_
      refine q_aload_n dX11_chance_16 rfl ?_
      refine q_get (v := .ref 1) fX11_11_11 rfl rfl dX11_chance_17 ?_
      refine q_iload_n dX11_chance_20 rfl ?_
      refine q_aald rfl (by decide) (by omega) (by omega) dX11_chance_21 ?_
      rw [x_rows_e (i := r) (by omega) (by omega)]
      show q_J _ _ _ _ _ _ _ (.ref (32 + 2 * r.toNat) :: _) _
      refine q_cVv [.ref (32 + 2 * r.toNat)] kX11_280_8 rfl (tX8_weighTold w ξ B P g (32 + 2 * r.toNat) (x_isR_rows hr0 hr1) (m_np μ r) htd.1 htd.2.1 (fun k k0 k1 => by have q := htd.2.2 k k0 k1; rw [q.1.1, q.1.2]; omega) hPs hTs hG) dX11_chance_22 rfl (by decide) (Nat.le_of_ble_eq_true rfl) rfl ?_
      have htr := m_tls_r hmG r htd.1.2
      have hbr := m_bel_r hmG (r := r) (k := m_np μ r) htd.1.2 (fun j j0 j1 => by have q := htd.2.2 j j0 j1; omega)
      refine q_aload_n dX11_chance_25 rfl ?_
      refine q_aload_n dX11_chance_26 rfl ?_
      refine q_get (v := .ref 7) fX11_34_11 rfl rfl dX11_chance_27 ?_
      refine q_aload_n dX11_chance_30 rfl ?_
      refine q_get (v := .ref 7) fX11_34_11 rfl rfl dX11_chance_31 ?_
      refine q_get (v := .ref 15) fX11_271_8 rfl rfl dX11_chance_34 ?_
      refine q_cV [.ref 15] kX11_202_8 rfl (tX8_sumOf_15 w (m_u ξ 15 (x_tlf ξ (32 + 2 * r.toNat) (m_np μ r))) B P g (show 0 ≤ ξ 8 2 ∧ ξ 8 2 ≤ 216 by omega)) dX11_chance_37 rfl (by decide) (Nat.le_of_ble_eq_true rfl) rfl ?_
      show q_J _ _ _ _ _ _ _ [q_l (z_sum (x_tlf ξ (32 + 2 * r.toNat) (m_np μ r)) (ξ 8 2)), .ref 0] (x_w w (m_u ξ 15 (x_tlf ξ (32 + 2 * r.toNat) (m_np μ r))) B P g)
      refine q_aload_n dX11_chance_40 rfl ?_
      refine q_get (v := .ref 7) fX11_34_11 rfl rfl dX11_chance_41 ?_
      refine q_aload_n dX11_chance_44 rfl ?_
      refine q_get (v := .ref 1) fX11_11_11 rfl rfl dX11_chance_45 ?_
      refine q_iload_n dX11_chance_48 rfl ?_
      refine q_aald rfl (by decide) (by omega) (by omega) dX11_chance_49 ?_
      rw [x_rows_e (i := r) (by omega) (by omega)]
      show q_J _ _ _ _ _ _ _ (.ref (32 + 2 * r.toNat) :: _) _
      refine q_cV [.ref (32 + 2 * r.toNat)] kX11_287_8 rfl (tX8_waysOfTold w (m_u ξ 15 (x_tlf ξ (32 + 2 * r.toNat) (m_np μ r))) B P g (32 + 2 * r.toNat) (x_isR_rows hr0 hr1) (m_np μ r) htd.1 (by rw [m_un (by omega)]; exact htd.2.1) (fun k k0 k1 => by rw [m_un (by omega)]; have q := htd.2.2 k k0 k1; rw [q.1.1, q.1.2]; exact ⟨⟨q.2.1.1, by show _ < ξ 7 0; omega⟩, q.2.2.1, by show _ < ξ 8 2; omega⟩) hPs (fun q h0 h1 => (hTs q h0 h1).u (by have h1 : q < ξ 7 0 := h1; omega) (by decide) _) hG) dX11_chance_50 rfl (by decide) (Nat.le_of_ble_eq_true rfl) rfl ?_
      show q_J _ _ _ _ _ _ _ [q_l (ξ 8 2 * z_prod (fun i => ξ 1004 ((m_u ξ 15 (x_tlf ξ (32 + 2 * r.toNat) (m_np μ r))) ((32 + 2 * r.toNat) + 1) (2 * i))) (m_np μ r)), q_l (z_sum (x_tlf ξ (32 + 2 * r.toNat) (m_np μ r)) (ξ 8 2)), .ref 0] (x_w w (m_u ξ 15 (x_tlf ξ (32 + 2 * r.toNat) (m_np μ r))) B P g)
      rw [m_un (show 32 + 2 * r.toNat + 1 ≠ 15 by omega)]
      refine q_cV [q_l (z_sum (x_tlf ξ (32 + 2 * r.toNat) (m_np μ r)) (ξ 8 2)), q_l (ξ 8 2 * z_prod (fun i => ξ 1004 (ξ ((32 + 2 * r.toNat) + 1) (2 * i))) (m_np μ r))] kX11_206_11 rfl (tX11_tellChance w (m_u ξ 15 (x_tlf ξ (32 + 2 * r.toNat) (m_np μ r))) B P g (z_sum (x_tlf ξ (32 + 2 * r.toNat) (m_np μ r)) (ξ 8 2)) (ξ 8 2 * z_prod (fun i => ξ 1004 (ξ ((32 + 2 * r.toNat) + 1) (2 * i))) (m_np μ r)) (by rw [hR.tls hr0 hr1 hnv]; omega) (by rw [hR.tls hr0 hr1 hnv]; omega) (by rw [hR.tlwy hr0 hr1 hnv]; omega) (by rw [hR.tlwy hr0 hr1 hnv]; omega)) dX11_chance_53 rfl (by decide) (Nat.le_of_ble_eq_true rfl) rfl ?_
      exact q_iret rfl dX11_chance_56 (⟨by unfold m_chance_v; rw [if_neg (by omega), if_neg (by omega)], _, rfl, by unfold m_chance_s; rw [if_neg (by omega), if_neg (by omega)]; rw [← hR.tls hr0 hr1 hnv, ← hR.tlwy hr0 hr1 hnv]; exact (hts.s15 _).tp _ _⟩)
    · skip
      refine q_iload_n dX11_chance_10 rfl ?_
      exact q_iret rfl dX11_chance_11 (⟨by unfold m_chance_v; rw [if_neg (by omega), ← hR.rtv hr0 hr1, if_pos h7], _, rfl, by unfold m_chance_s; rw [if_neg (by omega), ← hR.rtv hr0 hr1, if_pos h7]; exact hR.rts hr0 hr1⟩)
  · skip
    refine q_aload_n dX11_chance_0 rfl ?_
    refine q_iload_n dX11_chance_1 rfl ?_
    refine q_cV [q_i r] kX11_277_11 rfl (tX11_refusedTold_n w ξ B P g r hr (by omega)) dX11_chance_2 rfl (by decide) (Nat.le_of_ble_eq_true rfl) rfl ?_
    refine q_istore_n (lv' := [some (.ref 0), some (q_i r), some (q_i (-1))]) dX11_chance_5 (by decide) rfl ?_
    refine q_iload_n dX11_chance_6 rfl ?_
    refine q_if_eq (tgt := 12) dX11_chance_7 (by decide) ⟨by decide, by decide⟩ (fun h7 => False.elim (by omega)) (fun h7 => ?_)
    refine q_iload_n dX11_chance_10 rfl ?_
    exact q_iret rfl dX11_chance_11 (⟨by unfold m_chance_v; (repeat first | rw [if_pos (by omega)] | rw [if_neg (by omega)]), _, rfl, by unfold m_chance_s; (repeat first | rw [if_pos (by omega)] | rw [if_neg (by omega)]); exact hR⟩)
set_option maxRecDepth 20000 in
theorem tX11_read (w : q_W) (μ ξ : m_S) (B P : Nat) (g : Int → Option Nat) (hR : z_R μ ξ B P g) (r : Int) (hr : q_r r) : q_T mX11_read 4 0 0 [.ref 0, q_i r] (x_w w ξ B P g) (z_Q w B P g (q_i (m_read_v μ r)) (m_read_s μ r)) := by
  refine q_T.of (lv := [some (.ref 0), some (q_i r), none]) (by decide) rfl (Nat.le_of_ble_eq_true rfl) ?_
  obtain ⟨hn7, hn80, hn81, hn82, hn10⟩ := hR.n
  have hSb := hR.Sh.b
  have hDb := hR.De.1
  have hPs := hR.Ps
  have hPs1 := hPs.1
  have hPs2 := hPs.2.1
  have hPs3 := hPs.2.2.1
  have hTs := hR.Ts
  have hV := hR.V
  by_cases hq0 : 0 ≤ r ∧ r < 6
  · skip
    obtain ⟨hr0, hr1⟩ := hq0
    have hzr := hR.rz (r := r) hr0 hr1
    refine q_aload_n dX11_read_0 rfl ?_
    refine q_iload_n dX11_read_1 rfl ?_
    refine q_cV [q_i r] kX11_277_11 rfl (tX11_refusedTold w ξ B P g r hr0 hr1 (by omega) (fun j a0 a1 => by rw [hR.ri hr0 hr1 a0 (by omega)]; exact hR.I.it _) hPs (by omega)) dX11_read_2 rfl (by decide) (Nat.le_of_ble_eq_true rfl) rfl ?_
    refine q_istore_n (lv' := [some (.ref 0), some (q_i r), some (q_i (x_rt_v ξ (32 + 2 * r.toNat)))]) dX11_read_5 (by decide) rfl ?_
    refine q_iload_n dX11_read_6 rfl ?_
    refine q_if_eq (tgt := 12) dX11_read_7 (by decide) (show q_r (x_rt_v ξ (32 + 2 * r.toNat)) by rw [hR.rtv hr0 hr1]; exact m_nl_r μ r) (fun h7 => ?_) (fun h7 => ?_)
    · skip
      have hrs := x_rt_0 h7
      rw [hrs]
      have hnv : m_nl_v μ r = 0 := by rw [← hR.rtv hr0 hr1]; exact h7
      have hn0 := m_nl_0 hnv
      have hmG := hR.mG (by omega)
      have hmS := hmG.S
      have hG := hR.G (by omega)
      have htd := hR.told hr0 hr1 hnv
      have hts := hR.rts hr0 hr1
      rw [hrs] at hts
      refine q_aload_n dX11_read_12 rfl ?_
      refine q_get (v := .ref 7) fX11_34_11 rfl rfl dX11_read_13 ?_
      refine q_aload_n dX11_read_16 rfl ?_
      refine q_get (v := .ref 1) fX11_11_11 rfl rfl dX11_read_17 ?_
      refine q_iload_n dX11_read_20 rfl ?_
      refine q_aald rfl (by decide) (by omega) (by omega) dX11_read_21 ?_
      rw [x_rows_e (i := r) (by omega) (by omega)]
      show q_J _ _ _ _ _ _ _ (.ref (32 + 2 * r.toNat) :: _) _
      refine q_cVv [.ref (32 + 2 * r.toNat)] kX11_280_8 rfl (tX8_weighTold w ξ B P g (32 + 2 * r.toNat) (x_isR_rows hr0 hr1) (m_np μ r) htd.1 htd.2.1 (fun k k0 k1 => by have q := htd.2.2 k k0 k1; rw [q.1.1, q.1.2]; omega) hPs hTs hG) dX11_read_22 rfl (by decide) (Nat.le_of_ble_eq_true rfl) rfl ?_
      refine q_aload_n dX11_read_25 rfl ?_
      refine q_get (v := .ref 7) fX11_34_11 rfl rfl dX11_read_26 ?_
      refine q_aload_n dX11_read_29 rfl ?_
      refine q_get (v := .ref 7) fX11_34_11 rfl rfl dX11_read_30 ?_
      refine q_get (v := .ref 15) fX11_271_8 rfl rfl dX11_read_33 ?_
      refine q_cV [.ref 15] kX11_274_8 rfl (tX8_howManyAbove_15 w (m_u ξ 15 (x_tlf ξ (32 + 2 * r.toNat) (m_np μ r))) B P g (show 0 ≤ ξ 8 2 ∧ ξ 8 2 ≤ 216 by omega) (fun c h0 h1 => by have h1 : c < ξ 8 2 := h1; show 0 ≤ (x_tlf ξ (32 + 2 * r.toNat) (m_np μ r)) c ∧ (x_tlf ξ (32 + 2 * r.toNat) (m_np μ r)) c ≤ _; rw [hR.tlw hr0 hr1 hnv h0 (by omega)]; have q := hR.tlr hr0 hr1 hnv c; omega)) dX11_read_36 rfl (by decide) (Nat.le_of_ble_eq_true rfl) rfl ?_
      show q_J _ _ _ _ _ _ _ [q_i (z_pos (x_tlf ξ (32 + 2 * r.toNat) (m_np μ r)) (ξ 8 2))] (x_w w (m_u ξ 15 (x_tlf ξ (32 + 2 * r.toNat) (m_np μ r))) B P g)
      refine q_if_ne (tgt := 48) dX11_read_39 (by decide) ⟨by have := z_pos_r (x_tlf ξ (32 + 2 * r.toNat) (m_np μ r)) (n := ξ 8 2) (by omega); omega, by have := z_pos_r (x_tlf ξ (32 + 2 * r.toNat) (m_np μ r)) (n := ξ 8 2) (by omega); omega⟩ (fun h39 => ?_) (fun h39 => ?_)
      · skip
        refine q_aload_n dX11_read_48 rfl ?_
        refine q_get (v := .ref 7) fX11_34_11 rfl rfl dX11_read_49 ?_
        refine q_aload_n dX11_read_52 rfl ?_
        refine q_get (v := .ref 7) fX11_34_11 rfl rfl dX11_read_53 ?_
        refine q_get (v := .ref 15) fX11_271_8 rfl rfl dX11_read_56 ?_
        refine q_cV [.ref 15] kX11_210_8 rfl (tX8_likeliest_15 w (m_u ξ 15 (x_tlf ξ (32 + 2 * r.toNat) (m_np μ r))) B P g (show 0 ≤ ξ 8 2 ∧ ξ 8 2 ≤ 216 by omega) (fun c h0 h1 => by have h1 : c < ξ 8 2 := h1; show 0 ≤ (x_tlf ξ (32 + 2 * r.toNat) (m_np μ r)) c ∧ (x_tlf ξ (32 + 2 * r.toNat) (m_np μ r)) c ≤ _; rw [hR.tlw hr0 hr1 hnv h0 (by omega)]; have q := hR.tlr hr0 hr1 hnv c; omega) (show (0:Int) < ξ 8 2 by omega)) dX11_read_59 rfl (by decide) (Nat.le_of_ble_eq_true rfl) rfl ?_
        show q_J _ _ _ _ _ _ _ [q_i (z_am (x_tlf ξ (32 + 2 * r.toNat) (m_np μ r)) (ξ 8 2))] (x_w w (m_u ξ 15 (x_tlf ξ (32 + 2 * r.toNat) (m_np μ r))) B P g)
        exact q_iret rfl dX11_read_62 (⟨by unfold m_read_v; rw [if_neg (by omega), if_neg (by omega)]; rw [if_neg (fun q => h39 ((hR.tl0 hr0 hr1 hnv (by omega)).mpr q)), ← hR.tla hr0 hr1 hnv], _, rfl, by unfold m_read_s; rw [if_neg (by omega), if_neg (by omega)]; rw [if_neg (fun q => h39 ((hR.tl0 hr0 hr1 hnv (by omega)).mpr q))]; exact hts.s15 _⟩)
      · skip
        refine q_aload_n dX11_read_42 rfl ?_
        refine q_iconst dX11_read_43 ?_
        refine q_cV [q_i 4] kX11_85_11 rfl (tX11_found w (m_u ξ 15 (x_tlf ξ (32 + 2 * r.toNat) (m_np μ r))) B P g 4 (by decide) (by decide)) dX11_read_44 rfl (by decide) (Nat.le_of_ble_eq_true rfl) rfl ?_
        exact q_iret rfl dX11_read_47 (⟨by unfold m_read_v; rw [if_neg (by omega), if_neg (by omega)]; rw [if_pos ((hR.tl0 hr0 hr1 hnv (by omega)).mp (by omega))], _, rfl, by unfold m_read_s; rw [if_neg (by omega), if_neg (by omega)]; rw [if_pos ((hR.tl0 hr0 hr1 hnv (by omega)).mp (by omega))]; exact (hts.s15 _).find 4⟩)
    · skip
      refine q_iload_n dX11_read_10 rfl ?_
      exact q_iret rfl dX11_read_11 (⟨by unfold m_read_v; rw [if_neg (by omega), ← hR.rtv hr0 hr1, if_pos h7], _, rfl, by unfold m_read_s; rw [if_neg (by omega), ← hR.rtv hr0 hr1, if_pos h7]; exact hR.rts hr0 hr1⟩)
  · skip
    refine q_aload_n dX11_read_0 rfl ?_
    refine q_iload_n dX11_read_1 rfl ?_
    refine q_cV [q_i r] kX11_277_11 rfl (tX11_refusedTold_n w ξ B P g r hr (by omega)) dX11_read_2 rfl (by decide) (Nat.le_of_ble_eq_true rfl) rfl ?_
    refine q_istore_n (lv' := [some (.ref 0), some (q_i r), some (q_i (-1))]) dX11_read_5 (by decide) rfl ?_
    refine q_iload_n dX11_read_6 rfl ?_
    refine q_if_eq (tgt := 12) dX11_read_7 (by decide) ⟨by decide, by decide⟩ (fun h7 => False.elim (by omega)) (fun h7 => ?_)
    refine q_iload_n dX11_read_10 rfl ?_
    exact q_iret rfl dX11_read_11 (⟨by unfold m_read_v; (repeat first | rw [if_pos (by omega)] | rw [if_neg (by omega)]), _, rfl, by unfold m_read_s; (repeat first | rw [if_pos (by omega)] | rw [if_neg (by omega)]); exact hR⟩)
set_option maxRecDepth 20000 in
theorem tX11_count_d (w : q_W) (μ ξ : m_S) (B P : Nat) (g : Int → Option Nat) (hR : z_R μ ξ B P g) (t : Int) (ht : q_r t) : q_D mX11_count 2 [.ref 0, q_i t] (x_w w ξ B P g) (some (q_i (m_count_v μ t))) (x_w w ξ B P g) := by
  refine q_T.of (lv := [some (.ref 0), some (q_i t)]) (by decide) rfl (Nat.le_of_ble_eq_true rfl) ?_
  obtain ⟨hn7, hn80, hn81, hn82, hn10⟩ := hR.n
  have hSb := hR.Sh.b
  have hDb := hR.De.1
  have hPs := hR.Ps
  have hPs1 := hPs.1
  have hPs2 := hPs.2.1
  have hPs3 := hPs.2.2.1
  have hTs := hR.Ts
  have hV := hR.V
  refine q_iload_n dX11_count_0 rfl ?_
  rcases (show t = 0 ∨ t = 1 ∨ t = 2 ∨ t = 3 ∨ t = 4 ∨ t = 5 ∨ t = 6 ∨ t = 7 ∨ t = 8 ∨ t = 9 ∨ (t < 0 ∨ 9 < t) by omega) with hs1 | hs1 | hs1 | hs1 | hs1 | hs1 | hs1 | hs1 | hs1 | hs1 | hs1
  · skip
    refine q_tabIn (tgt := 56) dX11_count_1 ht (by omega) (by omega) (by rw [hs1]; rfl) (by decide) ?_
    refine q_aload_n dX11_count_56 rfl ?_
    refine q_get (v := .ref 7) fX11_34_11 rfl rfl dX11_count_57 ?_
    refine q_get (v := q_i (ξ 7 0)) fX11_115_8 rfl rfl dX11_count_60 ?_
    exact q_iret rfl dX11_count_63 (⟨by rw [hs1]; unfold m_count_v; rw [if_pos (by omega), hn7]; (try rfl), rfl⟩)
  · skip
    refine q_tabIn (tgt := 64) dX11_count_1 ht (by omega) (by omega) (by rw [hs1]; rfl) (by decide) ?_
    refine q_aload_n dX11_count_64 rfl ?_
    refine q_get (v := .ref 7) fX11_34_11 rfl rfl dX11_count_65 ?_
    refine q_get (v := .ref 8) fX11_165_8 rfl rfl dX11_count_68 ?_
    refine q_get (v := q_i (ξ 8 0)) fX11_228_10 rfl rfl dX11_count_71 ?_
    exact q_iret rfl dX11_count_74 (⟨by rw [hs1]; unfold m_count_v; rw [if_pos (by omega), hn80]; (try rfl), rfl⟩)
  · skip
    refine q_tabIn (tgt := 75) dX11_count_1 ht (by omega) (by omega) (by rw [hs1]; rfl) (by decide) ?_
    refine q_aload_n dX11_count_75 rfl ?_
    refine q_get (v := .ref 7) fX11_34_11 rfl rfl dX11_count_76 ?_
    refine q_get (v := .ref 8) fX11_165_8 rfl rfl dX11_count_79 ?_
    refine q_get (v := q_i (ξ 8 1)) fX11_221_10 rfl rfl dX11_count_82 ?_
    exact q_iret rfl dX11_count_85 (⟨by rw [hs1]; unfold m_count_v; rw [if_pos (by omega), hn81]; (try rfl), rfl⟩)
  · skip
    refine q_tabIn (tgt := 86) dX11_count_1 ht (by omega) (by omega) (by rw [hs1]; rfl) (by decide) ?_
    refine q_aload_n dX11_count_86 rfl ?_
    refine q_get (v := .ref 7) fX11_34_11 rfl rfl dX11_count_87 ?_
    refine q_get (v := .ref 8) fX11_165_8 rfl rfl dX11_count_90 ?_
    refine q_get (v := q_i (ξ 8 2)) fX11_309_10 rfl rfl dX11_count_93 ?_
    exact q_iret rfl dX11_count_96 (⟨by rw [hs1]; unfold m_count_v; rw [if_pos (by omega), hn82]; (try rfl), rfl⟩)
  · skip
    refine q_tabIn (tgt := 97) dX11_count_1 ht (by omega) (by omega) (by rw [hs1]; rfl) (by decide) ?_
    refine q_aload_n dX11_count_97 rfl ?_
    refine q_get (v := .ref 7) fX11_34_11 rfl rfl dX11_count_98 ?_
    refine q_cV [] kX11_139_8 rfl (tX8_howManyCanBe w ξ B P g (show 0 ≤ ξ 8 2 ∧ ξ 8 2 ≤ 216 by omega) (fun c h0 h1 => ⟨(hV c h0 h1).1, Int.le_trans (hV c h0 h1).2 (by decide)⟩)) dX11_count_101 rfl (by decide) (Nat.le_of_ble_eq_true rfl) rfl ?_
    exact q_iret rfl dX11_count_104 (⟨by rw [hs1]; unfold m_count_v; rw [if_pos (by omega), hR.zpos]; (try rfl), rfl⟩)
  · skip
    refine q_tabIn (tgt := 105) dX11_count_1 ht (by omega) (by omega) (by rw [hs1]; rfl) (by decide) ?_
    refine q_aload_n dX11_count_105 rfl ?_
    refine q_get (v := .ref 7) fX11_34_11 rfl rfl dX11_count_106 ?_
    refine q_get (v := .ref 10) fX11_152_8 rfl rfl dX11_count_109 ?_
    refine q_get (v := q_i (ξ 10 0)) fX11_114_9 rfl rfl dX11_count_112 ?_
    exact q_iret rfl dX11_count_115 (⟨by rw [hs1]; unfold m_count_v; rw [if_pos (by omega), hn10]; (try rfl), rfl⟩)
  · skip
    refine q_tabIn (tgt := 116) dX11_count_1 ht (by omega) (by omega) (by rw [hs1]; rfl) (by decide) ?_
    refine q_aload_n dX11_count_116 rfl ?_
    refine q_get (v := .ref 7) fX11_34_11 rfl rfl dX11_count_117 ?_
    refine q_cV [] kX11_316_8 rfl (tX8_howManyAny w ξ B P g hPs hTs) dX11_count_120 rfl (by decide) (Nat.le_of_ble_eq_true rfl) rfl ?_
    exact q_iret rfl dX11_count_123 (⟨by rw [hs1]; unfold m_count_v; rw [if_pos (by omega), hR.anye]; (try rfl), rfl⟩)
  · skip
    refine q_tabIn (tgt := 124) dX11_count_1 ht (by omega) (by omega) (by rw [hs1]; rfl) (by decide) ?_
    refine q_aload_n dX11_count_124 rfl ?_
    refine q_get (v := .ref 1) fX11_11_11 rfl rfl dX11_count_125 ?_
    refine q_cS [.ref 1] kX11_319 (tX11_howManyThere_1 w ξ B P g (fun r h0 h1 => by have q := hR.rz h0 h1; omega)) dX11_count_128 rfl (by decide) (Nat.le_of_ble_eq_true rfl) rfl ?_
    exact q_iret rfl dX11_count_131 (⟨by rw [hs1]; unfold m_count_v; rw [if_pos (by omega), hR.c7]; (try rfl), rfl⟩)
  · skip
    refine q_tabIn (tgt := 132) dX11_count_1 ht (by omega) (by omega) (by rw [hs1]; rfl) (by decide) ?_
    refine q_aload_n dX11_count_132 rfl ?_
    refine q_get (v := .ref 2) fX11_15_11 rfl rfl dX11_count_133 ?_
    refine q_cS [.ref 2] kX11_319 (tX11_howManyThere_2 w ξ B P g (fun r h0 h1 => by have q := hR.tz h0 h1; omega)) dX11_count_136 rfl (by decide) (Nat.le_of_ble_eq_true rfl) rfl ?_
    exact q_iret rfl dX11_count_139 (⟨by rw [hs1]; unfold m_count_v; rw [if_pos (by omega), hR.c8]; (try rfl), rfl⟩)
  · skip
    refine q_tabIn (tgt := 140) dX11_count_1 ht (by omega) (by omega) (by rw [hs1]; rfl) (by decide) ?_
    refine q_aload_n dX11_count_140 rfl ?_
    refine q_cV [] kX11_323_11 rfl (tX11_howManyKept w ξ B P g (fun k h0 h1 => by have q := hR.k h0 h1; have q2 := hR.kz h0 h1; omega)) dX11_count_141 rfl (by decide) (Nat.le_of_ble_eq_true rfl) rfl ?_
    exact q_iret rfl dX11_count_144 (⟨by rw [hs1]; unfold m_count_v; rw [if_pos (by omega), hR.c9]; (try rfl), rfl⟩)
  · skip
    refine q_tabOut (tgt := 145) dX11_count_1 ht hs1 (by decide) ?_
    refine q_iconst dX11_count_145 ?_
    exact q_iret rfl dX11_count_146 (⟨by unfold m_count_v; rw [if_neg (by omega)], rfl⟩)
theorem tX11_count (w : q_W) (μ ξ : m_S) (B P : Nat) (g : Int → Option Nat) (hR : z_R μ ξ B P g) (t : Int) (ht : q_r t) : q_T mX11_count 2 0 0 [.ref 0, q_i t] (x_w w ξ B P g) (z_Q w B P g (q_i (m_count_v μ t)) μ) := (tX11_count_d w μ ξ B P g hR t ht).mono (fun v w' h => ⟨h.1, ξ, h.2, hR⟩)
set_option maxRecDepth 20000 in
theorem tX11_digest_d (w : q_W) (μ ξ : m_S) (B P : Nat) (g : Int → Option Nat) (hR : z_R μ ξ B P g) : q_D mX11_digest 3 [.ref 0] (x_w w ξ B P g) (some (q_l (m_d6 μ))) (x_w w ξ B P g) := by
  refine q_T.of (lv := [some (.ref 0), none, none, none]) (by decide) rfl (Nat.le_of_ble_eq_true rfl) ?_
  obtain ⟨hn7, hn80, hn81, hn82, hn10⟩ := hR.n
  have hSb := hR.Sh.b
  have hDb := hR.De.1
  have hPs := hR.Ps
  have hPs1 := hPs.1
  have hPs2 := hPs.2.1
  have hPs3 := hPs.2.2.1
  have hTs := hR.Ts
  have hV := hR.V
  refine q_ldc2 17 wd_998 dX11_digest_0 ?_
  refine q_lstore_n (lv' := [some (.ref 0), some (q_l 17), none, none]) dX11_digest_3 (by decide) rfl ?_
  refine q_iconst dX11_digest_4 ?_
  refine q_istore_n (lv' := [some (.ref 0), some (q_l 17), none, some (q_i 0)]) dX11_digest_5 (by decide) rfl ?_
  have L6 : ∀ (m9 : Nat) (k : Int) (hk0 : 0 ≤ k) (hk1 : k ≤ 10) (hm9 : 10 - k < (m9 : Int)), q_J mX11_digest 3 (fun v' w' => v' = (some (q_l (m_d6 μ))) ∧ w' = (x_w w ξ B P g)) 0 0 6 [some (.ref 0), some (q_l (z_hash (m_cnt μ) 17 k)), none, some (q_i k)] [] (x_w w ξ B P g) := by
    intro m9
    induction m9 with
    | zero => intro k hk0 hk1 hm9; exact absurd hm9 (by omega)
    | succ m9 ih6 =>
      intro k hk0 hk1 hm9
      refine q_iload_n dX11_digest_6 rfl ?_
      refine q_bipush dX11_digest_7 ?_
      refine q_icmp_ge (tgt := 31) dX11_digest_9 (by decide) ⟨by omega, by omega⟩ ⟨by decide, by decide⟩ (fun h9 => ?_) (fun h9 => ?_)
      · skip
        obtain rfl : k = 10 := by omega
        refine q_Jle (lv' := [some (.ref 0), some (q_l (m_d1 μ)), none, none]) (q_le_s rfl (q_le_s rfl (q_le_n (q_le_n (q_le_e _))))) rfl rfl ?_
        refine q_iconst dX11_digest_31 ?_
        refine q_istore_n (lv' := [some (.ref 0), some (q_l (m_d1 μ)), none, some (q_i 0)]) dX11_digest_32 (by decide) rfl ?_
        have L33 : ∀ (m9 : Nat) (k : Int) (hk0 : 0 ≤ k) (hk1 : k ≤ ξ 8 2) (hm9 : ξ 8 2 - k < (m9 : Int)), q_J mX11_digest 3 (fun v' w' => v' = (some (q_l (m_d6 μ))) ∧ w' = (x_w w ξ B P g)) 0 0 33 [some (.ref 0), some (q_l (z_hash (ξ 14) (m_d1 μ) k)), none, some (q_i k)] [] (x_w w ξ B P g) := by
          intro m9
          induction m9 with
          | zero => intro k hk0 hk1 hm9; exact absurd hm9 (by omega)
          | succ m9 ih33 =>
            intro k hk0 hk1 hm9
            refine q_iload_n dX11_digest_33 rfl ?_
            refine q_aload_n dX11_digest_34 rfl ?_
            refine q_get (v := .ref 7) fX11_34_11 rfl rfl dX11_digest_35 ?_
            refine q_get (v := .ref 8) fX11_165_8 rfl rfl dX11_digest_38 ?_
            refine q_get (v := q_i (ξ 8 2)) fX11_309_10 rfl rfl dX11_digest_41 ?_
            refine q_icmp_ge (tgt := 69) dX11_digest_44 (by decide) ⟨by omega, by omega⟩ ⟨by omega, by omega⟩ (fun h44 => ?_) (fun h44 => ?_)
            · skip
              have hd2 : z_hash (ξ 14) (m_d1 μ) k = m_d2 μ := by rw [show k = μ 3 0 by omega]; exact z_hash_c (fun c c0 c1 => hR.w c0 c1)
              rw [hd2]
              refine q_Jle (lv' := [some (.ref 0), some (q_l (m_d2 μ)), none, none]) (q_le_s rfl (q_le_s rfl (q_le_n (q_le_n (q_le_e _))))) rfl rfl ?_
              refine q_aload_n dX11_digest_69 rfl ?_
              refine q_lload_n dX11_digest_70 rfl ?_
              have hd3 : z_hash (x_FK ξ) (m_d2 μ) (4 * ξ 7 0) = m_d3 μ := by unfold m_d3; rw [hn7]; refine z_hash_c (fun j j0 j1 => ?_); unfold x_FK; exact hR.fct (Int.tdiv_nonneg j0 (by decide)) (by rw [Int.tdiv_eq_ediv_of_nonneg j0]; omega) _
              refine q_cV [q_l (m_d2 μ)] kX11_333_11 rfl (Eq.mp (congrArg (fun z => q_D mX11_digestPersons 2 [.ref 0, q_l (m_d2 μ)] (x_w w ξ B P g) (some (q_l z)) (x_w w ξ B P g)) hd3) (tX11_digestPersons w ξ B P g (m_d2 μ) hPs hTs hR.xD (fun q => hR.G (Or.inl q)))) dX11_digest_71 rfl (by decide) (Nat.le_of_ble_eq_true rfl) rfl ?_
              refine q_lstore_n (lv' := [some (.ref 0), some (q_l (m_d3 μ)), none, none]) dX11_digest_74 (by decide) rfl ?_
              refine q_iconst dX11_digest_75 ?_
              refine q_istore_n (lv' := [some (.ref 0), some (q_l (m_d3 μ)), none, some (q_i 0)]) dX11_digest_76 (by decide) rfl ?_
              have L77 : ∀ (m9 : Nat) (k : Int) (hk0 : 0 ≤ k) (hk1 : k ≤ 3) (hm9 : 3 - k < (m9 : Int)), q_J mX11_digest 3 (fun v' w' => v' = (some (q_l (m_d6 μ))) ∧ w' = (x_w w ξ B P g)) 0 0 77 [some (.ref 0), some (q_l (z_hash (fun (k : Int) => ξ (52 + 4 * k.toNat) 0) (m_d3 μ) k)), none, some (q_i k)] [] (x_w w ξ B P g) := by
                intro m9
                induction m9 with
                | zero => intro k hk0 hk1 hm9; exact absurd hm9 (by omega)
                | succ m9 ih77 =>
                  intro k hk0 hk1 hm9
                  refine q_iload_n dX11_digest_77 rfl ?_
                  refine q_aload_n dX11_digest_78 rfl ?_
                  refine q_get (v := .ref 3) fX11_20_11 rfl rfl dX11_digest_79 ?_
                  refine q_alen rfl (by decide) dX11_digest_82 ?_
                  refine q_icmp_ge (tgt := 109) dX11_digest_83 (by decide) ⟨by omega, by omega⟩ ⟨by omega, by omega⟩ (fun h83 => ?_) (fun h83 => ?_)
                  · skip
                    obtain rfl : k = 3 := by omega
                    have hd4 : z_hash (fun (k : Int) => ξ (52 + 4 * k.toNat) 0) (m_d3 μ) 3 = m_d4 μ := z_hash_c (fun c c0 c1 => hR.k c0 c1)
                    rw [hd4]
                    refine q_Jle (lv' := [some (.ref 0), some (q_l (m_d4 μ)), none, none]) (q_le_s rfl (q_le_s rfl (q_le_n (q_le_n (q_le_e _))))) rfl rfl ?_
                    refine q_lload_n dX11_digest_109 rfl ?_
                    refine q_aload_n dX11_digest_110 rfl ?_
                    refine q_get (v := .ref 1) fX11_11_11 rfl rfl dX11_digest_111 ?_
                    have hd5 : z_hrows (fun (r : Int) => ξ (32 + 2 * r.toNat) 1) (fun (r j : Int) => ξ (32 + 2 * r.toNat + 1) j) (m_d4 μ) 6 = m_d5 μ := z_hrows_c (fun r r0 r1 => ⟨(hR.rz r0 r1).2, fun j j0 j1 => by have j1 : j < ξ (32 + 2 * r.toNat) 1 := j1; exact hR.ri r0 r1 j0 (by have q := hR.rz r0 r1; omega)⟩)
                    refine q_cS [q_l (m_d4 μ), .ref 1] kX11_337 (Eq.mp (congrArg (fun z => q_D mX11_digestRows 0 [q_l (m_d4 μ), .ref 1] (x_w w ξ B P g) (some (q_l z)) (x_w w ξ B P g)) hd5) (tX11_digestRows_1 w ξ B P g (m_d4 μ) (fun r h0 h1 => by have q := hR.rz h0 h1; omega) (fun r h0 h1 j j0 j1 => by rw [hR.ri h0 h1 j0 (by have q := hR.rz h0 h1; omega)]; exact hR.I.it _))) dX11_digest_114 rfl (by decide) (Nat.le_of_ble_eq_true rfl) rfl ?_
                    refine q_lstore_n (lv' := [some (.ref 0), some (q_l (m_d5 μ)), none, none]) dX11_digest_117 (by decide) rfl ?_
                    refine q_lload_n dX11_digest_118 rfl ?_
                    refine q_aload_n dX11_digest_119 rfl ?_
                    refine q_get (v := .ref 2) fX11_15_11 rfl rfl dX11_digest_120 ?_
                    have hd6 : z_hrows (fun (r : Int) => ξ (44 + 2 * r.toNat) 1) (fun (r j : Int) => ξ (44 + 2 * r.toNat + 1) j) (m_d5 μ) 4 = m_d6 μ := z_hrows_c (fun r r0 r1 => ⟨(hR.tz r0 r1).2, fun j j0 j1 => by have j1 : j < ξ (44 + 2 * r.toNat) 1 := j1; exact hR.ti r0 r1 j0 (by have q := hR.tz r0 r1; omega)⟩)
                    refine q_cS [q_l (m_d5 μ), .ref 2] kX11_337 (Eq.mp (congrArg (fun z => q_D mX11_digestRows 0 [q_l (m_d5 μ), .ref 2] (x_w w ξ B P g) (some (q_l z)) (x_w w ξ B P g)) hd6) (tX11_digestRows_2 w ξ B P g (m_d5 μ) (fun r h0 h1 => by have q := hR.tz h0 h1; omega) (fun r h0 h1 j j0 j1 => by rw [hR.ti h0 h1 j0 (by have q := hR.tz h0 h1; omega)]; exact ⟨by have := hR.I.by8 (60 * r + j); omega, by have := hR.I.by8 (60 * r + j); omega⟩))) dX11_digest_123 rfl (by decide) (Nat.le_of_ble_eq_true rfl) rfl ?_
                    exact q_lret rfl dX11_digest_126 (⟨rfl, rfl⟩)
                  · skip
                    refine q_ldc2 31 wd_999 dX11_digest_86 ?_
                    refine q_lload_n dX11_digest_89 rfl ?_
                    refine q_lmul dX11_digest_90 ?_
                    refine q_aload_n dX11_digest_91 rfl ?_
                    refine q_get (v := .ref 3) fX11_20_11 rfl rfl dX11_digest_92 ?_
                    refine q_iload_n dX11_digest_95 rfl ?_
                    refine q_aald rfl (by decide) (by omega) (by omega) dX11_digest_96 ?_
                    rw [x_kept_e (i := k) (by omega) (by omega)]
                    show q_J _ _ _ _ _ _ _ (.ref (52 + 4 * k.toNat) :: _) _
                    refine q_get (v := q_i (ξ (52 + 4 * k.toNat) 0)) fX11_114_9 (x_sO (x_isS_k (k := k) hk0 (by omega))) rfl dX11_digest_97 ?_
                    refine q_i2lr dX11_digest_100 ⟨by have q := hR.k hk0 (show k < 3 by omega); have q2 := hR.kz hk0 (show k < 3 by omega); omega, by have q := hR.k hk0 (show k < 3 by omega); have q2 := hR.kz hk0 (show k < 3 by omega); omega⟩ ?_
                    refine q_ladd dX11_digest_101 ?_
                    refine q_lstore_n (lv' := [some (.ref 0), some (q_l ((31 * (z_hash (fun (k : Int) => ξ (52 + 4 * k.toNat) 0) (m_d3 μ) k)) + (ξ (52 + 4 * k.toNat) 0))), none, some (q_i k)]) dX11_digest_102 (by decide) rfl ?_
                    refine q_iinc (lv' := [some (.ref 0), some (q_l ((31 * (z_hash (fun (k : Int) => ξ (52 + 4 * k.toNat) 0) (m_d3 μ) k)) + (ξ (52 + 4 * k.toNat) 0))), none, some (q_i (k + 1))]) dX11_digest_103 rfl (by decide) rfl ?_
                    refine q_goto (tgt := 77) dX11_digest_106 (by decide) ?_
                    exact q_Jle (q_le_s (rfl) (q_le_s (by rw [z_hash_s _ _ hk0]) (q_le_n (q_le_s (rfl) (q_le_e _))))) (rfl) (rfl) (ih77 (k + 1) (by omega) (by omega) (by omega))
              exact q_Jle (q_le_s (rfl) (q_le_s (by rw [z_hash_0]) (q_le_n (q_le_s (rfl) (q_le_e _))))) (rfl) (rfl) (L77 ((3 : Int).toNat + 1) 0 (by omega) (by omega) (by omega))
            · skip
              refine q_ldc2 31 wd_999 dX11_digest_47 ?_
              refine q_lload_n dX11_digest_50 rfl ?_
              refine q_lmul dX11_digest_51 ?_
              refine q_aload_n dX11_digest_52 rfl ?_
              refine q_get (v := .ref 7) fX11_34_11 rfl rfl dX11_digest_53 ?_
              refine q_get (v := .ref 14) fX11_198_8 rfl rfl dX11_digest_56 ?_
              refine q_iload_n dX11_digest_59 rfl ?_
              refine q_lald (f := (ξ 14)) (n9 := 216) rfl (by omega) (by omega) dX11_digest_60 ?_
              refine q_ladd dX11_digest_61 ?_
              refine q_lstore_n (lv' := [some (.ref 0), some (q_l ((31 * (z_hash (ξ 14) (m_d1 μ) k)) + ((ξ 14) k))), none, some (q_i k)]) dX11_digest_62 (by decide) rfl ?_
              refine q_iinc (lv' := [some (.ref 0), some (q_l ((31 * (z_hash (ξ 14) (m_d1 μ) k)) + ((ξ 14) k))), none, some (q_i (k + 1))]) dX11_digest_63 rfl (by decide) rfl ?_
              refine q_goto (tgt := 33) dX11_digest_66 (by decide) ?_
              exact q_Jle (q_le_s (rfl) (q_le_s (by rw [z_hash_s _ _ hk0]) (q_le_n (q_le_s (rfl) (q_le_e _))))) (rfl) (rfl) (ih33 (k + 1) (by omega) (by omega) (by omega))
        exact q_Jle (q_le_s (rfl) (q_le_s (by rw [z_hash_0]) (q_le_n (q_le_s (rfl) (q_le_e _))))) (rfl) (rfl) (L33 ((ξ 8 2 : Int).toNat + 1) 0 (by omega) (by omega) (by omega))
      · skip
        refine q_ldc2 31 wd_999 dX11_digest_12 ?_
        refine q_lload_n dX11_digest_15 rfl ?_
        refine q_lmul dX11_digest_16 ?_
        refine q_aload_n dX11_digest_17 rfl ?_
        refine q_iload_n dX11_digest_18 rfl ?_
        have hcv : m_count_v μ k = m_cnt μ k := by unfold m_count_v; rw [if_pos (by omega)]
        refine q_cV [q_i k] kX11_330_11 rfl (Eq.mp (congrArg (fun z => q_D mX11_count 2 [.ref 0, q_i k] (x_w w ξ B P g) (some (q_i z)) (x_w w ξ B P g)) hcv) (tX11_count_d w μ ξ B P g hR k ⟨by omega, by omega⟩)) dX11_digest_19 rfl (by decide) (Nat.le_of_ble_eq_true rfl) rfl ?_
        refine q_i2lr dX11_digest_22 ⟨by have := hR.cr hk0 (show k ≤ 9 by omega); omega, by have := hR.cr hk0 (show k ≤ 9 by omega); omega⟩ ?_
        refine q_ladd dX11_digest_23 ?_
        refine q_lstore_n (lv' := [some (.ref 0), some (q_l ((31 * (z_hash (m_cnt μ) 17 k)) + (m_cnt μ k))), none, some (q_i k)]) dX11_digest_24 (by decide) rfl ?_
        refine q_iinc (lv' := [some (.ref 0), some (q_l ((31 * (z_hash (m_cnt μ) 17 k)) + (m_cnt μ k))), none, some (q_i (k + 1))]) dX11_digest_25 rfl (by decide) rfl ?_
        refine q_goto (tgt := 6) dX11_digest_28 (by decide) ?_
        exact q_Jle (q_le_s (rfl) (q_le_s (by rw [z_hash_s _ _ hk0]) (q_le_n (q_le_s (rfl) (q_le_e _))))) (rfl) (rfl) (ih6 (k + 1) (by omega) (by omega) (by omega))
  exact q_Jle (q_le_s (rfl) (q_le_s (rfl) (q_le_n (q_le_s (rfl) (q_le_e _))))) (rfl) (rfl) (L6 ((10 : Int).toNat + 1) 0 (by omega) (by omega) (by omega))
theorem tX11_digest (w : q_W) (μ ξ : m_S) (B P : Nat) (g : Int → Option Nat) (hR : z_R μ ξ B P g) : q_T mX11_digest 3 0 0 [.ref 0] (x_w w ξ B P g) (z_Q w B P g (q_l (m_d6 μ)) μ) := (tX11_digest_d w μ ξ B P g hR).mono (fun v w' h => ⟨h.1, ξ, h.2, hR⟩)
