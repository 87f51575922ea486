/-! the reference: weights laid, deeds -/
theorem q_us_us {α : Type} (f : Int → α) (i : Int) (x y : α) : q_us (q_us f i x) i y = q_us f i y := by
  funext j
  unfold q_us
  split <;> rfl
def m_Z (μ : m_S) (c k : Int) : Int := z_wt (μ 5) (m_fl μ) (μ 1 0) (μ 2 0) (m_dw μ) (m_dv μ) c k
def m_lwf (μ : m_S) (c : Int) : Int → Int := fun j => if 0 ≤ j ∧ j < c then m_Z μ j (μ 0 0) else μ 6 j
def m_lw (μ : m_S) : m_S := m_u μ 6 (m_lwf μ (μ 3 0))
theorem m_lwf_0 (μ : m_S) : m_lwf μ 0 = μ 6 := by
  funext j
  unfold m_lwf
  rw [if_neg (by omega)]
theorem m_lwf_s (μ : m_S) {c : Int} (h : 0 ≤ c) : q_us (m_lwf μ c) c (m_Z μ c (μ 0 0)) = m_lwf μ (c + 1) := by
  funext j
  unfold q_us m_lwf
  by_cases e : j = c
  · rw [if_pos e, if_pos (by omega), e]
  · rw [if_neg e]
    by_cases h2 : 0 ≤ j ∧ j < c
    · rw [if_pos h2, if_pos (by omega)]
    · rw [if_neg h2, if_neg (by omega)]
theorem m_Z_s (μ : m_S) (c : Int) {k : Int} (h : 0 ≤ k) : m_Z μ c (k + 1) = z_w1 (μ 5) (m_fl μ) (μ 1 0) (μ 2 0) (m_Z μ c k) (μ 0 (6 + k)) (μ 0 (22 + k)) c := z_wt_s _ _ _ _ _ _ _ h
set_option maxRecDepth 20000 in
theorem tX12_layWeights (w : q_W) (μ : m_S) (hH : m_Sh μ) (hD : m_De μ) : q_D mX12_layWeights 6 [.ref 64] (m_w w μ) none (m_w w (m_lw μ)) := by
  refine q_T.of (lv := [some (.ref 64), none, none]) (by decide) rfl (Nat.le_of_ble_eq_true rfl) ?_
  have hb := hH.b
  have hD0 := hD.1
  refine q_iconst dX12_layWeights_0 ?_
  refine q_istore_n (lv' := [some (.ref 64), some (q_i 0), none]) dX12_layWeights_1 (by decide) rfl ?_
  have L2 : ∀ (m9 : Nat) (c : Int) (hc0 : 0 ≤ c) (hc1 : c ≤ μ 3 0) (hm9 : μ 3 0 - c < (m9 : Int)), q_J mX12_layWeights 6 (fun v' w' => v' = none ∧ w' = (m_w w (m_lw μ))) 0 0 2 [some (.ref 64), some (q_i c), none] [] (m_w w (m_u μ 6 (m_lwf μ c))) := by
    intro m9
    induction m9 with
    | zero => intro c hc0 hc1 hm9; exact absurd hm9 (by omega)
    | succ m9 ih2 =>
      intro c hc0 hc1 hm9
      refine q_iload_n dX12_layWeights_2 rfl ?_
      refine q_aload_n dX12_layWeights_3 rfl ?_
      refine q_get (v := q_i (μ 3 0)) fX12_139_12 rfl rfl dX12_layWeights_4 ?_
      refine q_icmp_ge (tgt := 76) dX12_layWeights_7 (by decide) ⟨by omega, by omega⟩ ⟨by omega, by omega⟩ (fun h7 => ?_) (fun h7 => ?_)
      · skip
        exact q_vret rfl dX12_layWeights_76 (⟨rfl, by rw [show c = μ 3 0 by omega]; rfl⟩)
      · skip
        have hG := hH.g (by omega)
        have hS := hG.S
        refine q_aload_n dX12_layWeights_10 rfl ?_
        refine q_get (v := .ref 67) fX12_16_12 rfl rfl dX12_layWeights_11 ?_
        refine q_iload_n dX12_layWeights_14 rfl ?_
        refine q_lconst 1 dX12_layWeights_15 ?_
        refine q_last (f := (m_lwf μ c)) (n9 := 216) rfl (by omega) (by omega) dX12_layWeights_16 ?_
        rw [m_a6]
        refine q_iconst dX12_layWeights_17 ?_
        refine q_istore_n (lv' := [some (.ref 64), some (q_i c), some (q_i 0)]) dX12_layWeights_18 (by decide) rfl ?_
        have L19 : ∀ (m9 : Nat) (k : Int) (hk0 : 0 ≤ k) (hk1 : k ≤ μ 0 0) (hm9 : μ 0 0 - k < (m9 : Int)), q_J mX12_layWeights 6 (fun v' w' => v' = none ∧ w' = (m_w w (m_lw μ))) 0 0 19 [some (.ref 64), some (q_i c), some (q_i k)] [] (m_w w (m_u μ 6 (q_us (m_lwf μ c) c (m_Z μ c k)))) := by
          intro m9
          induction m9 with
          | zero => intro k hk0 hk1 hm9; exact absurd hm9 (by omega)
          | succ m9 ih19 =>
            intro k hk0 hk1 hm9
            refine q_iload_n dX12_layWeights_19 rfl ?_
            refine q_aload_n dX12_layWeights_20 rfl ?_
            refine q_get (v := .ref 65) fX12_7_12 rfl rfl dX12_layWeights_21 ?_
            refine q_iconst dX12_layWeights_24 ?_
            refine q_iald (f := (μ 0)) (n9 := 152) rfl (by omega) (by omega) dX12_layWeights_25 ?_
            refine q_icmp_ge (tgt := 70) dX12_layWeights_26 (by decide) ⟨by omega, by omega⟩ ⟨by omega, by omega⟩ (fun h26 => ?_) (fun h26 => ?_)
            · skip
              refine q_iinc (lv' := [some (.ref 64), some (q_i (c + 1)), some (q_i k)]) dX12_layWeights_70 rfl (by decide) rfl ?_
              refine q_goto (tgt := 2) dX12_layWeights_73 (by decide) ?_
              exact q_Jle (q_le_s (rfl) (q_le_s (rfl) (q_le_n (q_le_e _)))) (rfl) (by rw [show k = μ 0 0 by omega, m_lwf_s _ hc0]) (ih2 (c + 1) (by omega) (by omega) (by omega))
            · skip
              have hdd := hD.2 k hk0 (by omega)
              refine q_aload_n dX12_layWeights_29 rfl ?_
              refine q_get (v := .ref 67) fX12_16_12 rfl rfl dX12_layWeights_30 ?_
              refine q_iload_n dX12_layWeights_33 rfl ?_
              refine q_aload_n dX12_layWeights_34 rfl ?_
              refine q_aload_n dX12_layWeights_35 rfl ?_
              refine q_get (v := .ref 67) fX12_16_12 rfl rfl dX12_layWeights_36 ?_
              refine q_iload_n dX12_layWeights_39 rfl ?_
              refine q_lald (f := (q_us (m_lwf μ c) c (m_Z μ c k))) (n9 := 216) rfl (by omega) (by omega) dX12_layWeights_40 ?_
              rw [q_us_s]
              refine q_aload_n dX12_layWeights_41 rfl ?_
              refine q_get (v := .ref 65) fX12_7_12 rfl rfl dX12_layWeights_42 ?_
              refine q_bipush dX12_layWeights_45 ?_
              refine q_iload_n dX12_layWeights_47 rfl ?_
              refine q_iadd dX12_layWeights_48 ?_
              refine q_iald (f := (μ 0)) (n9 := 152) rfl (by omega) (by omega) dX12_layWeights_49 ?_
              refine q_aload_n dX12_layWeights_50 rfl ?_
              refine q_get (v := .ref 65) fX12_7_12 rfl rfl dX12_layWeights_51 ?_
              refine q_bipush dX12_layWeights_54 ?_
              refine q_iload_n dX12_layWeights_56 rfl ?_
              refine q_iadd dX12_layWeights_57 ?_
              refine q_iald (f := (μ 0)) (n9 := 152) rfl (by omega) (by omega) dX12_layWeights_58 ?_
              refine q_iload_n dX12_layWeights_59 rfl ?_
              refine q_cV [q_l (m_Z μ c k), q_i ((μ 0) (6 + k)), q_i ((μ 0) (22 + k)), q_i c] kX12_173_12 rfl (tX12_weightBy w (m_u μ 6 (q_us (m_lwf μ c) c (m_Z μ c k))) (m_Z μ c k) ((μ 0) (6 + k)) ((μ 0) (22 + k)) c hdd.1 hdd.2.1 hdd.2.2 hc0 (show c < μ 3 0 by omega) hG) dX12_layWeights_60 rfl (by decide) (Nat.le_of_ble_eq_true rfl) rfl ?_
              refine q_last (f := (q_us (m_lwf μ c) c (m_Z μ c k))) (n9 := 216) rfl (by omega) (by omega) dX12_layWeights_63 ?_
              rw [m_a6]
              refine q_iinc (lv' := [some (.ref 64), some (q_i c), some (q_i (k + 1))]) dX12_layWeights_64 rfl (by decide) rfl ?_
              refine q_goto (tgt := 19) dX12_layWeights_67 (by decide) ?_
              exact q_Jle (q_le_s (rfl) (q_le_s (rfl) (q_le_s (rfl) (q_le_e _)))) (rfl) (by rw [m_uu, q_us_us, m_Z_s _ _ hk0]; rfl) (ih19 (k + 1) (by omega) (by omega) (by omega))
        exact q_Jle (q_le_s (rfl) (q_le_s (rfl) (q_le_s (rfl) (q_le_e _)))) (rfl) (by rw [m_uu]; rfl) (L19 ((μ 0 0 : Int).toNat + 1) 0 (by omega) (by omega) (by omega))
  exact q_Jle (q_le_s (rfl) (q_le_s (rfl) (q_le_n (q_le_e _)))) (rfl) (by rw [m_lwf_0]; exact (congrArg (m_w w) (m_uid _ 6)).symm) (L2 ((μ 3 0 : Int).toNat + 1) 0 (by omega) (by omega) (by omega))
set_option maxRecDepth 20000 in
theorem tX12_sightsFrom (w : q_W) (μ : m_S) (p : Int) (hp0 : 0 ≤ p) (hp1 : p < μ 4 0) (hG : m_G μ) : q_D mX12_sightsFrom 5 [.ref 64, q_i p] (m_w w μ) (some (q_i (z_sum (fun c => if 0 < (z_ways (μ 5 p) (μ 0 (1 + p)) (μ 1 0) (μ 2 0) 0 c) then 1 else 0) (μ 3 0)))) (m_w w μ) := by
  refine q_T.of (lv := [some (.ref 64), some (q_i p), none, none]) (by decide) rfl (Nat.le_of_ble_eq_true rfl) ?_
  have hW := hG.1
  have hN := hG.2.1
  have hS := hG.S
  have hPn := hG.2.2.2.1
  have hq := hG.2.2.2.2 p hp0 hp1
  refine q_iconst dX12_sightsFrom_0 ?_
  refine q_istore_n (lv' := [some (.ref 64), some (q_i p), some (q_i 0), none]) dX12_sightsFrom_1 (by decide) rfl ?_
  refine q_iconst dX12_sightsFrom_2 ?_
  refine q_istore_n (lv' := [some (.ref 64), some (q_i p), some (q_i 0), some (q_i 0)]) dX12_sightsFrom_3 (by decide) rfl ?_
  have L4 : ∀ (m9 : Nat) (k : Int) (hk0 : 0 ≤ k) (hk1 : k ≤ μ 3 0) (hm9 : μ 3 0 - k < (m9 : Int)), q_J mX12_sightsFrom 5 (fun v' w' => v' = (some (q_i (z_sum (fun c => if 0 < (z_ways (μ 5 p) (μ 0 (1 + p)) (μ 1 0) (μ 2 0) 0 c) then 1 else 0) (μ 3 0)))) ∧ w' = (m_w w μ)) 0 0 4 [some (.ref 64), some (q_i p), some (q_i (z_sum (fun c => if 0 < (z_ways (μ 5 p) (μ 0 (1 + p)) (μ 1 0) (μ 2 0) 0 c) then 1 else 0) k)), some (q_i k)] [] (m_w w μ) := by
    intro m9
    induction m9 with
    | zero => intro k hk0 hk1 hm9; exact absurd hm9 (by omega)
    | succ m9 ih4 =>
      intro k hk0 hk1 hm9
      refine q_iload_n dX12_sightsFrom_4 rfl ?_
      refine q_aload_n dX12_sightsFrom_5 rfl ?_
      refine q_get (v := q_i (μ 3 0)) fX12_139_12 rfl rfl dX12_sightsFrom_6 ?_
      refine q_icmp_ge (tgt := 36) dX12_sightsFrom_9 (by decide) ⟨by omega, by omega⟩ ⟨by omega, by omega⟩ (fun h9 => ?_) (fun h9 => ?_)
      · skip
        refine q_iload_n dX12_sightsFrom_36 rfl ?_
        exact q_iret rfl dX12_sightsFrom_37 (⟨by rw [show k = μ 3 0 by omega], rfl⟩)
      · skip
        refine q_iload_n dX12_sightsFrom_12 rfl ?_
        refine q_aload_n dX12_sightsFrom_13 rfl ?_
        refine q_iload_n dX12_sightsFrom_14 rfl ?_
        refine q_iconst dX12_sightsFrom_15 ?_
        refine q_iload_n dX12_sightsFrom_16 rfl ?_
        refine q_cV [q_i p, q_i 0, q_i k] kX12_170_12 rfl (tX12_waysOf w μ p 0 k (by omega) (by omega) (by omega) (by omega) (by omega) (by omega) hG) dX12_sightsFrom_17 rfl (by decide) (Nat.le_of_ble_eq_true rfl) rfl ?_
        refine q_if_le (tgt := 27) dX12_sightsFrom_20 (by decide) ⟨by have := z_ways_r (k := μ 5 p) (f := μ 0 (1 + p)) (N := μ 2 0) 0 k hW; omega, by have := z_ways_r (k := μ 5 p) (f := μ 0 (1 + p)) (N := μ 2 0) 0 k hW; omega⟩ (fun h20 => ?_) (fun h20 => ?_)
        · skip
          refine q_iconst dX12_sightsFrom_27 ?_
          refine q_iadd dX12_sightsFrom_28 ?_
          refine q_istore_n (lv' := [some (.ref 64), some (q_i p), some (q_i ((z_sum (fun c => if 0 < (z_ways (μ 5 p) (μ 0 (1 + p)) (μ 1 0) (μ 2 0) 0 c) then 1 else 0) k) + 0)), some (q_i k)]) dX12_sightsFrom_29 (by decide) rfl ?_
          refine q_iinc (lv' := [some (.ref 64), some (q_i p), some (q_i ((z_sum (fun c => if 0 < (z_ways (μ 5 p) (μ 0 (1 + p)) (μ 1 0) (μ 2 0) 0 c) then 1 else 0) k) + 0)), some (q_i (k + 1))]) dX12_sightsFrom_30 rfl (by decide) rfl ?_
          refine q_goto (tgt := 4) dX12_sightsFrom_33 (by decide) ?_
          exact q_Jle (q_le_s (rfl) (q_le_s (rfl) (q_le_s (by rw [z_sum_s _ hk0]; (try dsimp only); (repeat' split) <;> first | rfl | (exfalso; omega)) (q_le_s (rfl) (q_le_e _))))) (rfl) (rfl) (ih4 (k + 1) (by omega) (by omega) (by omega))
        · skip
          refine q_iconst dX12_sightsFrom_23 ?_
          refine q_goto (tgt := 28) dX12_sightsFrom_24 (by decide) ?_
          refine q_iadd dX12_sightsFrom_28 ?_
          refine q_istore_n (lv' := [some (.ref 64), some (q_i p), some (q_i ((z_sum (fun c => if 0 < (z_ways (μ 5 p) (μ 0 (1 + p)) (μ 1 0) (μ 2 0) 0 c) then 1 else 0) k) + 1)), some (q_i k)]) dX12_sightsFrom_29 (by decide) rfl ?_
          refine q_iinc (lv' := [some (.ref 64), some (q_i p), some (q_i ((z_sum (fun c => if 0 < (z_ways (μ 5 p) (μ 0 (1 + p)) (μ 1 0) (μ 2 0) 0 c) then 1 else 0) k) + 1)), some (q_i (k + 1))]) dX12_sightsFrom_30 rfl (by decide) rfl ?_
          refine q_goto (tgt := 4) dX12_sightsFrom_33 (by decide) ?_
          exact q_Jle (q_le_s (rfl) (q_le_s (rfl) (q_le_s (by rw [z_sum_s _ hk0]; (try dsimp only); (repeat' split) <;> first | rfl | (exfalso; omega)) (q_le_s (rfl) (q_le_e _))))) (rfl) (rfl) (ih4 (k + 1) (by omega) (by omega) (by omega))
  exact q_Jle (q_le_s (rfl) (q_le_s (rfl) (q_le_s (rfl) (q_le_s (rfl) (q_le_e _))))) (rfl) (rfl) (L4 ((μ 3 0 : Int).toNat + 1) 0 (by omega) (by omega) (by omega))
set_option maxRecDepth 20000 in
theorem tX12_waysThatLeave (w : q_W) (μ : m_S) (p : Int) (hp0 : 0 ≤ p) (hp1 : p < μ 4 0) (hG : m_G μ) : q_D mX12_waysThatLeave 5 [.ref 64, q_i p] (m_w w μ) (some (q_i (z_sum (fun c => if z_nt (μ 1 0) (μ 2 0) c 0 = 0 then (z_ways (μ 5 p) (μ 0 (1 + p)) (μ 1 0) (μ 2 0) 0 c) else 0) (μ 3 0)))) (m_w w μ) := by
  refine q_T.of (lv := [some (.ref 64), some (q_i p), none, none]) (by decide) rfl (Nat.le_of_ble_eq_true rfl) ?_
  have hW := hG.1
  have hN := hG.2.1
  have hS := hG.S
  have hPn := hG.2.2.2.1
  have hq := hG.2.2.2.2 p hp0 hp1
  refine q_iconst dX12_waysThatLeave_0 ?_
  refine q_istore_n (lv' := [some (.ref 64), some (q_i p), some (q_i 0), none]) dX12_waysThatLeave_1 (by decide) rfl ?_
  refine q_iconst dX12_waysThatLeave_2 ?_
  refine q_istore_n (lv' := [some (.ref 64), some (q_i p), some (q_i 0), some (q_i 0)]) dX12_waysThatLeave_3 (by decide) rfl ?_
  have L4 : ∀ (m9 : Nat) (k : Int) (hk0 : 0 ≤ k) (hk1 : k ≤ μ 3 0) (hm9 : μ 3 0 - k < (m9 : Int)), q_J mX12_waysThatLeave 5 (fun v' w' => v' = (some (q_i (z_sum (fun c => if z_nt (μ 1 0) (μ 2 0) c 0 = 0 then (z_ways (μ 5 p) (μ 0 (1 + p)) (μ 1 0) (μ 2 0) 0 c) else 0) (μ 3 0)))) ∧ w' = (m_w w μ)) 0 0 4 [some (.ref 64), some (q_i p), some (q_i (z_sum (fun c => if z_nt (μ 1 0) (μ 2 0) c 0 = 0 then (z_ways (μ 5 p) (μ 0 (1 + p)) (μ 1 0) (μ 2 0) 0 c) else 0) k)), some (q_i k)] [] (m_w w μ) := by
    intro m9
    induction m9 with
    | zero => intro k hk0 hk1 hm9; exact absurd hm9 (by omega)
    | succ m9 ih4 =>
      intro k hk0 hk1 hm9
      refine q_iload_n dX12_waysThatLeave_4 rfl ?_
      refine q_aload_n dX12_waysThatLeave_5 rfl ?_
      refine q_get (v := q_i (μ 3 0)) fX12_139_12 rfl rfl dX12_waysThatLeave_6 ?_
      refine q_icmp_ge (tgt := 41) dX12_waysThatLeave_9 (by decide) ⟨by omega, by omega⟩ ⟨by omega, by omega⟩ (fun h9 => ?_) (fun h9 => ?_)
      · skip
        refine q_iload_n dX12_waysThatLeave_41 rfl ?_
        exact q_iret rfl dX12_waysThatLeave_42 (⟨by rw [show k = μ 3 0 by omega], rfl⟩)
      · skip
        refine q_iload_n dX12_waysThatLeave_12 rfl ?_
        refine q_aload_n dX12_waysThatLeave_13 rfl ?_
        refine q_iload_n dX12_waysThatLeave_14 rfl ?_
        refine q_iconst dX12_waysThatLeave_15 ?_
        refine q_cV [q_i k, q_i 0] kX12_148_12 rfl (tX12_notch w μ k 0 (by omega) (by omega) (by omega) (by omega) hG) dX12_waysThatLeave_16 rfl (by decide) (Nat.le_of_ble_eq_true rfl) rfl ?_
        have hnr := z_nt_r (W := μ 1 0) (N := μ 2 0) (s := k) (w := 0) hN.1 hk0 (z_pw_r hN (n := μ 1 0 - 1 - 0) (by omega) (by omega)).1
        refine q_if_ne (tgt := 32) dX12_waysThatLeave_19 (by decide) ⟨by omega, by omega⟩ (fun h19 => ?_) (fun h19 => ?_)
        · skip
          refine q_iconst dX12_waysThatLeave_32 ?_
          refine q_iadd dX12_waysThatLeave_33 ?_
          refine q_istore_n (lv' := [some (.ref 64), some (q_i p), some (q_i ((z_sum (fun c => if z_nt (μ 1 0) (μ 2 0) c 0 = 0 then (z_ways (μ 5 p) (μ 0 (1 + p)) (μ 1 0) (μ 2 0) 0 c) else 0) k) + 0)), some (q_i k)]) dX12_waysThatLeave_34 (by decide) rfl ?_
          refine q_iinc (lv' := [some (.ref 64), some (q_i p), some (q_i ((z_sum (fun c => if z_nt (μ 1 0) (μ 2 0) c 0 = 0 then (z_ways (μ 5 p) (μ 0 (1 + p)) (μ 1 0) (μ 2 0) 0 c) else 0) k) + 0)), some (q_i (k + 1))]) dX12_waysThatLeave_35 rfl (by decide) rfl ?_
          refine q_goto (tgt := 4) dX12_waysThatLeave_38 (by decide) ?_
          exact q_Jle (q_le_s (rfl) (q_le_s (rfl) (q_le_s (by rw [z_sum_s _ hk0]; (try dsimp only); (repeat' split) <;> first | rfl | (exfalso; omega)) (q_le_s (rfl) (q_le_e _))))) (rfl) (rfl) (ih4 (k + 1) (by omega) (by omega) (by omega))
        · skip
          refine q_aload_n dX12_waysThatLeave_22 rfl ?_
          refine q_iload_n dX12_waysThatLeave_23 rfl ?_
          refine q_iconst dX12_waysThatLeave_24 ?_
          refine q_iload_n dX12_waysThatLeave_25 rfl ?_
          refine q_cV [q_i p, q_i 0, q_i k] kX12_170_12 rfl (tX12_waysOf w μ p 0 k (by omega) (by omega) (by omega) (by omega) (by omega) (by omega) hG) dX12_waysThatLeave_26 rfl (by decide) (Nat.le_of_ble_eq_true rfl) rfl ?_
          refine q_goto (tgt := 33) dX12_waysThatLeave_29 (by decide) ?_
          refine q_iadd dX12_waysThatLeave_33 ?_
          refine q_istore_n (lv' := [some (.ref 64), some (q_i p), some (q_i ((z_sum (fun c => if z_nt (μ 1 0) (μ 2 0) c 0 = 0 then (z_ways (μ 5 p) (μ 0 (1 + p)) (μ 1 0) (μ 2 0) 0 c) else 0) k) + (z_ways (μ 5 p) (μ 0 (1 + p)) (μ 1 0) (μ 2 0) 0 k))), some (q_i k)]) dX12_waysThatLeave_34 (by decide) rfl ?_
          refine q_iinc (lv' := [some (.ref 64), some (q_i p), some (q_i ((z_sum (fun c => if z_nt (μ 1 0) (μ 2 0) c 0 = 0 then (z_ways (μ 5 p) (μ 0 (1 + p)) (μ 1 0) (μ 2 0) 0 c) else 0) k) + (z_ways (μ 5 p) (μ 0 (1 + p)) (μ 1 0) (μ 2 0) 0 k))), some (q_i (k + 1))]) dX12_waysThatLeave_35 rfl (by decide) rfl ?_
          refine q_goto (tgt := 4) dX12_waysThatLeave_38 (by decide) ?_
          exact q_Jle (q_le_s (rfl) (q_le_s (rfl) (q_le_s (by rw [z_sum_s _ hk0]; (try dsimp only); (repeat' split) <;> first | rfl | (exfalso; omega)) (q_le_s (rfl) (q_le_e _))))) (rfl) (rfl) (ih4 (k + 1) (by omega) (by omega) (by omega))
  exact q_Jle (q_le_s (rfl) (q_le_s (rfl) (q_le_s (rfl) (q_le_s (rfl) (q_le_e _))))) (rfl) (rfl) (L4 ((μ 3 0 : Int).toNat + 1) 0 (by omega) (by omega) (by omega))
set_option maxRecDepth 20000 in
theorem tX12_notchesInAll (w : q_W) (μ : m_S) (p : Int) (hp0 : 0 ≤ p) (hp1 : p < μ 4 0) (hG : m_G μ) : q_D mX12_notchesInAll 5 [.ref 64, q_i p] (m_w w μ) (some (q_i (z_sum (fun c => z_sum (fun v => (z_ways (μ 5 p) (μ 0 (1 + p)) (μ 1 0) (μ 2 0) 0 c) * z_nt (μ 1 0) (μ 2 0) c v) (μ 1 0)) (μ 3 0)))) (m_w w μ) := by
  refine q_T.of (lv := [some (.ref 64), some (q_i p), none, none, none]) (by decide) rfl (Nat.le_of_ble_eq_true rfl) ?_
  have hW := hG.1
  have hN := hG.2.1
  have hS := hG.S
  have hPn := hG.2.2.2.1
  have hq := hG.2.2.2.2 p hp0 hp1
  refine q_iconst dX12_notchesInAll_0 ?_
  refine q_istore_n (lv' := [some (.ref 64), some (q_i p), some (q_i 0), none, none]) dX12_notchesInAll_1 (by decide) rfl ?_
  refine q_iconst dX12_notchesInAll_2 ?_
  refine q_istore_n (lv' := [some (.ref 64), some (q_i p), some (q_i 0), some (q_i 0), none]) dX12_notchesInAll_3 (by decide) rfl ?_
  have L4 : ∀ (m9 : Nat) (k : Int) (hk0 : 0 ≤ k) (hk1 : k ≤ μ 3 0) (hm9 : μ 3 0 - k < (m9 : Int)), q_J mX12_notchesInAll 5 (fun v' w' => v' = (some (q_i (z_sum (fun c => z_sum (fun v => (z_ways (μ 5 p) (μ 0 (1 + p)) (μ 1 0) (μ 2 0) 0 c) * z_nt (μ 1 0) (μ 2 0) c v) (μ 1 0)) (μ 3 0)))) ∧ w' = (m_w w μ)) 0 0 4 [some (.ref 64), some (q_i p), some (q_i (z_sum (fun c => z_sum (fun v => (z_ways (μ 5 p) (μ 0 (1 + p)) (μ 1 0) (μ 2 0) 0 c) * z_nt (μ 1 0) (μ 2 0) c v) (μ 1 0)) k)), some (q_i k), none] [] (m_w w μ) := by
    intro m9
    induction m9 with
    | zero => intro k hk0 hk1 hm9; exact absurd hm9 (by omega)
    | succ m9 ih4 =>
      intro k hk0 hk1 hm9
      refine q_iload_n dX12_notchesInAll_4 rfl ?_
      refine q_aload_n dX12_notchesInAll_5 rfl ?_
      refine q_get (v := q_i (μ 3 0)) fX12_139_12 rfl rfl dX12_notchesInAll_6 ?_
      refine q_icmp_ge (tgt := 54) dX12_notchesInAll_9 (by decide) ⟨by omega, by omega⟩ ⟨by omega, by omega⟩ (fun h9 => ?_) (fun h9 => ?_)
      · skip
        refine q_iload_n dX12_notchesInAll_54 rfl ?_
        exact q_iret rfl dX12_notchesInAll_55 (⟨by rw [show k = μ 3 0 by omega], rfl⟩)
      · skip
        refine q_iconst dX12_notchesInAll_12 ?_
        refine q_istore (lv' := [some (.ref 64), some (q_i p), some (q_i (z_sum (fun c => z_sum (fun v => (z_ways (μ 5 p) (μ 0 (1 + p)) (μ 1 0) (μ 2 0) 0 c) * z_nt (μ 1 0) (μ 2 0) c v) (μ 1 0)) k)), some (q_i k), some (q_i 0)]) dX12_notchesInAll_13 (by decide) rfl ?_
        have L15 : ∀ (m9 : Nat) (j : Int) (hj0 : 0 ≤ j) (hj1 : j ≤ μ 1 0) (hm9 : μ 1 0 - j < (m9 : Int)), q_J mX12_notchesInAll 5 (fun v' w' => v' = (some (q_i (z_sum (fun c => z_sum (fun v => (z_ways (μ 5 p) (μ 0 (1 + p)) (μ 1 0) (μ 2 0) 0 c) * z_nt (μ 1 0) (μ 2 0) c v) (μ 1 0)) (μ 3 0)))) ∧ w' = (m_w w μ)) 0 0 15 [some (.ref 64), some (q_i p), some (q_i ((z_sum (fun c => z_sum (fun v => (z_ways (μ 5 p) (μ 0 (1 + p)) (μ 1 0) (μ 2 0) 0 c) * z_nt (μ 1 0) (μ 2 0) c v) (μ 1 0)) k) + z_sum (fun v => (z_ways (μ 5 p) (μ 0 (1 + p)) (μ 1 0) (μ 2 0) 0 k) * z_nt (μ 1 0) (μ 2 0) k v) j)), some (q_i k), some (q_i j)] [] (m_w w μ) := by
          intro m9
          induction m9 with
          | zero => intro j hj0 hj1 hm9; exact absurd hm9 (by omega)
          | succ m9 ih15 =>
            intro j hj0 hj1 hm9
            refine q_iload dX12_notchesInAll_15 rfl ?_
            refine q_aload_n dX12_notchesInAll_17 rfl ?_
            refine q_get (v := q_i (μ 1 0)) fX12_130_12 rfl rfl dX12_notchesInAll_18 ?_
            refine q_icmp_ge (tgt := 48) dX12_notchesInAll_21 (by decide) ⟨by omega, by omega⟩ ⟨by omega, by omega⟩ (fun h21 => ?_) (fun h21 => ?_)
            · skip
              refine q_iinc (lv' := [some (.ref 64), some (q_i p), some (q_i ((z_sum (fun c => z_sum (fun v => (z_ways (μ 5 p) (μ 0 (1 + p)) (μ 1 0) (μ 2 0) 0 c) * z_nt (μ 1 0) (μ 2 0) c v) (μ 1 0)) k) + z_sum (fun v => (z_ways (μ 5 p) (μ 0 (1 + p)) (μ 1 0) (μ 2 0) 0 k) * z_nt (μ 1 0) (μ 2 0) k v) j)), some (q_i (k + 1)), some (q_i j)]) dX12_notchesInAll_48 rfl (by decide) rfl ?_
              refine q_goto (tgt := 4) dX12_notchesInAll_51 (by decide) ?_
              exact q_Jle (q_le_s (rfl) (q_le_s (rfl) (q_le_s (by rw [z_sum_s _ hk0, show j = μ 1 0 by omega]) (q_le_s (rfl) (q_le_n (q_le_e _)))))) (rfl) (rfl) (ih4 (k + 1) (by omega) (by omega) (by omega))
            · skip
              refine q_iload_n dX12_notchesInAll_24 rfl ?_
              refine q_aload_n dX12_notchesInAll_25 rfl ?_
              refine q_iload_n dX12_notchesInAll_26 rfl ?_
              refine q_iconst dX12_notchesInAll_27 ?_
              refine q_iload_n dX12_notchesInAll_28 rfl ?_
              refine q_cV [q_i p, q_i 0, q_i k] kX12_170_12 rfl (tX12_waysOf w μ p 0 k (by omega) (by omega) (by omega) (by omega) (by omega) (by omega) hG) dX12_notchesInAll_29 rfl (by decide) (Nat.le_of_ble_eq_true rfl) rfl ?_
              refine q_aload_n dX12_notchesInAll_32 rfl ?_
              refine q_iload_n dX12_notchesInAll_33 rfl ?_
              refine q_iload dX12_notchesInAll_34 rfl ?_
              refine q_cV [q_i k, q_i j] kX12_148_12 rfl (tX12_notch w μ k j (by omega) (by omega) (by omega) (by omega) hG) dX12_notchesInAll_36 rfl (by decide) (Nat.le_of_ble_eq_true rfl) rfl ?_
              refine q_imul dX12_notchesInAll_39 ?_
              refine q_iadd dX12_notchesInAll_40 ?_
              refine q_istore_n (lv' := [some (.ref 64), some (q_i p), some (q_i (((z_sum (fun c => z_sum (fun v => (z_ways (μ 5 p) (μ 0 (1 + p)) (μ 1 0) (μ 2 0) 0 c) * z_nt (μ 1 0) (μ 2 0) c v) (μ 1 0)) k) + z_sum (fun v => (z_ways (μ 5 p) (μ 0 (1 + p)) (μ 1 0) (μ 2 0) 0 k) * z_nt (μ 1 0) (μ 2 0) k v) j) + ((z_ways (μ 5 p) (μ 0 (1 + p)) (μ 1 0) (μ 2 0) 0 k) * (z_nt (μ 1 0) (μ 2 0) k j)))), some (q_i k), some (q_i j)]) dX12_notchesInAll_41 (by decide) rfl ?_
              refine q_iinc (lv' := [some (.ref 64), some (q_i p), some (q_i (((z_sum (fun c => z_sum (fun v => (z_ways (μ 5 p) (μ 0 (1 + p)) (μ 1 0) (μ 2 0) 0 c) * z_nt (μ 1 0) (μ 2 0) c v) (μ 1 0)) k) + z_sum (fun v => (z_ways (μ 5 p) (μ 0 (1 + p)) (μ 1 0) (μ 2 0) 0 k) * z_nt (μ 1 0) (μ 2 0) k v) j) + ((z_ways (μ 5 p) (μ 0 (1 + p)) (μ 1 0) (μ 2 0) 0 k) * (z_nt (μ 1 0) (μ 2 0) k j)))), some (q_i k), some (q_i (j + 1))]) dX12_notchesInAll_42 rfl (by decide) rfl ?_
              refine q_goto (tgt := 15) dX12_notchesInAll_45 (by decide) ?_
              exact q_Jle (q_le_s (rfl) (q_le_s (rfl) (q_le_s (by rw [z_sum_s _ hj0, Int.add_assoc]) (q_le_s (rfl) (q_le_s (rfl) (q_le_e _)))))) (rfl) (rfl) (ih15 (j + 1) (by omega) (by omega) (by omega))
        exact q_Jle (q_le_s (rfl) (q_le_s (rfl) (q_le_s (by rw [z_sum_0, Int.add_zero]) (q_le_s (rfl) (q_le_s (rfl) (q_le_e _)))))) (rfl) (rfl) (L15 ((μ 1 0 : Int).toNat + 1) 0 (by omega) (by omega) (by omega))
  exact q_Jle (q_le_s (rfl) (q_le_s (rfl) (q_le_s (rfl) (q_le_s (rfl) (q_le_n (q_le_e _)))))) (rfl) (rfl) (L4 ((μ 3 0 : Int).toNat + 1) 0 (by omega) (by omega) (by omega))
def m_mark_v (μ : m_S) (p t : Int) : Int := if ¬ (0 ≤ p ∧ p ≤ μ 4 0 - 1) then -1 else if ¬ (1 ≤ t ∧ t ≤ 5) then -1 else if ¬ (μ 5 p = t ∨ (t = 1 ∧ μ 5 p = 4) ∨ (t = 2 ∧ μ 5 p = 5)) then -3 else if t = 1 then (z_sum (fun c => if 0 < (z_ways (μ 5 p) (μ 0 (1 + p)) (μ 1 0) (μ 2 0) 0 c) then 1 else 0) (μ 3 0)) else if t = 2 then (z_sum (fun c => if z_nt (μ 1 0) (μ 2 0) c 0 = 0 then (z_ways (μ 5 p) (μ 0 (1 + p)) (μ 1 0) (μ 2 0) 0 c) else 0) (μ 3 0)) else if t = 3 then z_sum (fun c => if 0 < μ 6 c then 1 else 0) (μ 3 0) else if t = 4 then z_two (μ 1 0) else (z_sum (fun c => z_sum (fun v => (z_ways (μ 5 p) (μ 0 (1 + p)) (μ 1 0) (μ 2 0) 0 c) * z_nt (μ 1 0) (μ 2 0) c v) (μ 1 0)) (μ 3 0))
def m_mark_s (μ : m_S) (p t : Int) : m_S := if ¬ (0 ≤ p ∧ p ≤ μ 4 0 - 1) then μ else if ¬ (1 ≤ t ∧ t ≤ 5) then μ else if ¬ (μ 5 p = t ∨ (t = 1 ∧ μ 5 p = 4) ∨ (t = 2 ∧ μ 5 p = 5)) then m_find μ 3 else μ
set_option maxRecDepth 20000 in
theorem tX12_mark (w : q_W) (μ : m_S) (p t : Int) (hp : q_r p) (ht : q_r t) (hH : m_Sh μ) (hV : m_V μ) : q_D mX12_mark 6 [.ref 64, q_i p, q_i t] (m_w w μ) (some (q_i (m_mark_v μ p t))) (m_w w (m_mark_s μ p t)) := by
  refine q_T.of (lv := [some (.ref 64), some (q_i p), some (q_i t)]) (by decide) rfl (Nat.le_of_ble_eq_true rfl) ?_
  have hb := hH.b
  refine q_aload_n dX12_mark_0 rfl ?_
  refine q_iload_n dX12_mark_1 rfl ?_
  refine q_cV [q_i p] kX12_183_12 rfl (tX12_isPerson w μ p (hp) (by omega) (by omega)) dX12_mark_2 rfl (by decide) (Nat.le_of_ble_eq_true rfl) rfl ?_
  refine q_ifb_eq (tgt := 20) dX12_mark_5 (by decide) (fun h5 => ?_) (fun h5 => ?_)
  · skip
    refine q_iconst dX12_mark_20 ?_
    exact q_iret rfl dX12_mark_21 (⟨by (unfold m_mark_v; (repeat first | rw [if_pos (by omega)] | rw [if_neg (by omega)])), by (unfold m_mark_s; (repeat first | rw [if_pos (by omega)] | rw [if_neg (by omega)]))⟩)
  · skip
    refine q_iload_n dX12_mark_8 rfl ?_
    refine q_i2lr dX12_mark_9 ht ?_
    refine q_lconst 1 dX12_mark_10 ?_
    refine q_ldc2 5 wd_1097 dX12_mark_11 ?_
    refine q_cS [q_l t, q_l 1, q_l 5] kX12_57 (tX12_in t 1 5 (⟨by have := (ht).1; omega, by have := (ht).2; omega⟩) (⟨by decide, by decide⟩) (⟨by decide, by decide⟩) (m_w w μ)) dX12_mark_14 rfl (by decide) (Nat.le_of_ble_eq_true rfl) rfl ?_
    refine q_ifb_ne (tgt := 22) dX12_mark_17 (by decide) (fun h17 => ?_) (fun h17 => ?_)
    · skip
      have hG := hH.g (by omega)
      have hq := hG.2.2.2.2 p (by omega) (by omega)
      refine q_aload_n dX12_mark_22 rfl ?_
      refine q_iload_n dX12_mark_23 rfl ?_
      refine q_iload_n dX12_mark_24 rfl ?_
      refine q_cV [q_i p, q_i t] kX12_189_12 rfl (tX12_isOf w μ p t (by omega) (by omega) ht hG) dX12_mark_25 rfl (by decide) (Nat.le_of_ble_eq_true rfl) rfl ?_
      refine q_ifb_ne (tgt := 37) dX12_mark_28 (by decide) (fun h28 => ?_) (fun h28 => ?_)
      · skip
        refine q_iload_n dX12_mark_37 rfl ?_
        rcases (show t = 1 ∨ t = 2 ∨ t = 3 ∨ t = 4 ∨ (t < 1 ∨ 4 < t) by omega) with hs38 | hs38 | hs38 | hs38 | hs38
        · skip
          refine q_tabIn (tgt := 68) dX12_mark_38 ht (by omega) (by omega) (by rw [hs38]; rfl) (by decide) ?_
          refine q_aload_n dX12_mark_68 rfl ?_
          refine q_iload_n dX12_mark_69 rfl ?_
          refine q_cV [q_i p] kX12_193_12 rfl (tX12_sightsFrom w μ p (by omega) (by omega) hG) dX12_mark_70 rfl (by decide) (Nat.le_of_ble_eq_true rfl) rfl ?_
          exact q_iret rfl dX12_mark_73 (⟨by (unfold m_mark_v; (repeat first | rw [if_pos (by omega)] | rw [if_neg (by omega)])), by (unfold m_mark_s; (repeat first | rw [if_pos (by omega)] | rw [if_neg (by omega)]))⟩)
        · skip
          refine q_tabIn (tgt := 74) dX12_mark_38 ht (by omega) (by omega) (by rw [hs38]; rfl) (by decide) ?_
          refine q_aload_n dX12_mark_74 rfl ?_
          refine q_iload_n dX12_mark_75 rfl ?_
          refine q_cV [q_i p] kX12_196_12 rfl (tX12_waysThatLeave w μ p (by omega) (by omega) hG) dX12_mark_76 rfl (by decide) (Nat.le_of_ble_eq_true rfl) rfl ?_
          exact q_iret rfl dX12_mark_79 (⟨by (unfold m_mark_v; (repeat first | rw [if_pos (by omega)] | rw [if_neg (by omega)])), by (unfold m_mark_s; (repeat first | rw [if_pos (by omega)] | rw [if_neg (by omega)]))⟩)
        · skip
          refine q_tabIn (tgt := 80) dX12_mark_38 ht (by omega) (by omega) (by rw [hs38]; rfl) (by decide) ?_
          refine q_aload_n dX12_mark_80 rfl ?_
          refine q_cV [] kX12_199_12 rfl (tX12_possible w μ hV) dX12_mark_81 rfl (by decide) (Nat.le_of_ble_eq_true rfl) rfl ?_
          exact q_iret rfl dX12_mark_84 (⟨by (unfold m_mark_v; (repeat first | rw [if_pos (by omega)] | rw [if_neg (by omega)])), by (unfold m_mark_s; (repeat first | rw [if_pos (by omega)] | rw [if_neg (by omega)]))⟩)
        · skip
          refine q_tabIn (tgt := 85) dX12_mark_38 ht (by omega) (by omega) (by rw [hs38]; rfl) (by decide) ?_
          refine q_aload_n dX12_mark_85 rfl ?_
          refine q_cV [] kX12_167_12 rfl (tX12_twoAtMost w μ hG) dX12_mark_86 rfl (by decide) (Nat.le_of_ble_eq_true rfl) rfl ?_
          have h2r : 0 ≤ z_two (μ 1 0) ∧ z_two (μ 1 0) ≤ 2 := by unfold z_two; split <;> omega
          exact q_iret rfl dX12_mark_89 (⟨by (unfold m_mark_v; (repeat first | rw [if_pos (by omega)] | rw [if_neg (by omega)])), by (unfold m_mark_s; (repeat first | rw [if_pos (by omega)] | rw [if_neg (by omega)]))⟩)
        · skip
          refine q_tabOut (tgt := 90) dX12_mark_38 ht hs38 (by decide) ?_
          refine q_aload_n dX12_mark_90 rfl ?_
          refine q_iload_n dX12_mark_91 rfl ?_
          refine q_cV [q_i p] kX12_202_12 rfl (tX12_notchesInAll w μ p (by omega) (by omega) hG) dX12_mark_92 rfl (by decide) (Nat.le_of_ble_eq_true rfl) rfl ?_
          exact q_iret rfl dX12_mark_95 (⟨by (unfold m_mark_v; (repeat first | rw [if_pos (by omega)] | rw [if_neg (by omega)])), by (unfold m_mark_s; (repeat first | rw [if_pos (by omega)] | rw [if_neg (by omega)]))⟩)
      · skip
        refine q_aload_n dX12_mark_31 rfl ?_
        refine q_iconst dX12_mark_32 ?_
        refine q_cV [q_i 3] kX12_67_12 rfl (tX12_find w μ 3 (by decide) (by decide)) dX12_mark_33 rfl (by decide) (Nat.le_of_ble_eq_true rfl) rfl ?_
        exact q_iret rfl dX12_mark_36 (⟨by (unfold m_mark_v; (repeat first | rw [if_pos (by omega)] | rw [if_neg (by omega)])), by (unfold m_mark_s; (repeat first | rw [if_pos (by omega)] | rw [if_neg (by omega)]))⟩)
    · skip
      refine q_iconst dX12_mark_20 ?_
      exact q_iret rfl dX12_mark_21 (⟨by (unfold m_mark_v; (repeat first | rw [if_pos (by omega)] | rw [if_neg (by omega)])), by (unfold m_mark_s; (repeat first | rw [if_pos (by omega)] | rw [if_neg (by omega)]))⟩)
def m_flicks_v (μ : m_S) (p v : Int) : Int := if ¬ (0 ≤ p ∧ p ≤ μ 4 0 - 1) then -1 else if ¬ (1 ≤ v ∧ v ≤ 3) then -1 else if 0 < μ 0 0 then -4 else μ 0 (1 + p)
def m_flicks_s (μ : m_S) (p v : Int) : m_S := if ¬ (0 ≤ p ∧ p ≤ μ 4 0 - 1) then μ else if ¬ (1 ≤ v ∧ v ≤ 3) then μ else if 0 < μ 0 0 then μ else m_u μ 0 (q_us (μ 0) (1 + p) v)
set_option maxRecDepth 20000 in
theorem tX12_flicks (w : q_W) (μ : m_S) (p v : Int) (hp : q_r p) (hv : q_r v) (hH : m_Sh μ) (hD : m_De μ) : q_D mX12_flicks 2 [.ref 64, q_i p, q_i v] (m_w w μ) (some (q_i (m_flicks_v μ p v))) (m_w w (m_flicks_s μ p v)) := by
  refine q_T.of (lv := [some (.ref 64), some (q_i p), some (q_i v), none]) (by decide) rfl (Nat.le_of_ble_eq_true rfl) ?_
  have hb := hH.b
  have hD0 := hD.1
  refine q_aload_n dX12_flicks_0 rfl ?_
  refine q_iload_n dX12_flicks_1 rfl ?_
  refine q_cV [q_i p] kX12_183_12 rfl (tX12_isPerson w μ p (hp) (by omega) (by omega)) dX12_flicks_2 rfl (by decide) (Nat.le_of_ble_eq_true rfl) rfl ?_
  refine q_ifb_eq (tgt := 20) dX12_flicks_5 (by decide) (fun h5 => ?_) (fun h5 => ?_)
  · skip
    refine q_iconst dX12_flicks_20 ?_
    exact q_iret rfl dX12_flicks_21 (⟨by (unfold m_flicks_v; (repeat' split) <;> first | rfl | (exfalso; omega)), by (unfold m_flicks_s; (repeat' split) <;> first | rfl | (exfalso; omega))⟩)
  · skip
    refine q_iload_n dX12_flicks_8 rfl ?_
    refine q_i2lr dX12_flicks_9 hv ?_
    refine q_lconst 1 dX12_flicks_10 ?_
    refine q_ldc2 3 wd_1148 dX12_flicks_11 ?_
    refine q_cS [q_l v, q_l 1, q_l 3] kX12_57 (tX12_in v 1 3 (⟨by have := (hv).1; omega, by have := (hv).2; omega⟩) (⟨by decide, by decide⟩) (⟨by decide, by decide⟩) (m_w w μ)) dX12_flicks_14 rfl (by decide) (Nat.le_of_ble_eq_true rfl) rfl ?_
    refine q_ifb_ne (tgt := 22) dX12_flicks_17 (by decide) (fun h17 => ?_) (fun h17 => ?_)
    · skip
      refine q_aload_n dX12_flicks_22 rfl ?_
      refine q_get (v := .ref 65) fX12_7_12 rfl rfl dX12_flicks_23 ?_
      refine q_iconst dX12_flicks_26 ?_
      refine q_iald (f := (μ 0)) (n9 := 152) rfl (by omega) (by omega) dX12_flicks_27 ?_
      refine q_if_le (tgt := 34) dX12_flicks_28 (by decide) ⟨by omega, by omega⟩ (fun h28 => ?_) (fun h28 => ?_)
      · skip
        refine q_aload_n dX12_flicks_34 rfl ?_
        refine q_iload_n dX12_flicks_35 rfl ?_
        refine q_cV [q_i p] kX12_151_12 rfl (tX12_flicksOf w μ p (by omega) (by omega)) dX12_flicks_36 rfl (by decide) (Nat.le_of_ble_eq_true rfl) rfl ?_
        refine q_istore_n (lv' := [some (.ref 64), some (q_i p), some (q_i v), some (q_i ((μ 0) (1 + p)))]) dX12_flicks_39 (by decide) rfl ?_
        refine q_aload_n dX12_flicks_40 rfl ?_
        refine q_get (v := .ref 65) fX12_7_12 rfl rfl dX12_flicks_41 ?_
        refine q_iconst dX12_flicks_44 ?_
        refine q_iload_n dX12_flicks_45 rfl ?_
        refine q_iadd dX12_flicks_46 ?_
        refine q_iload_n dX12_flicks_47 rfl ?_
        refine q_iast (f := (μ 0)) (n9 := 152) rfl (by omega) (by omega) dX12_flicks_48 ?_
        rw [m_a0]
        refine q_iload_n dX12_flicks_49 rfl ?_
        exact q_iret rfl dX12_flicks_50 (⟨by (unfold m_flicks_v; (repeat' split) <;> first | rfl | (exfalso; omega)), by (unfold m_flicks_s; (repeat' split) <;> first | rfl | (exfalso; omega))⟩)
      · skip
        refine q_bipush dX12_flicks_31 ?_
        exact q_iret rfl dX12_flicks_33 (⟨by (unfold m_flicks_v; (repeat' split) <;> first | rfl | (exfalso; omega)), by (unfold m_flicks_s; (repeat' split) <;> first | rfl | (exfalso; omega))⟩)
    · skip
      refine q_iconst dX12_flicks_20 ?_
      exact q_iret rfl dX12_flicks_21 (⟨by (unfold m_flicks_v; (repeat' split) <;> first | rfl | (exfalso; omega)), by (unfold m_flicks_s; (repeat' split) <;> first | rfl | (exfalso; omega))⟩)
