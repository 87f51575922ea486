/-! the reference: faults, sheds -/
theorem m_rl_01 (μ : m_S) : m_rl_v μ = 0 ∨ m_rl_v μ = 1 := by
  unfold m_rl_v
  (repeat' split) <;> simp
theorem m_rp_01 (μ : m_S) : m_rp_v μ = 0 ∨ m_rp_v μ = 1 := by
  unfold m_rp_v
  (repeat' split) <;> simp
theorem m_rl_R {μ : m_S} (h : m_R μ) : m_R (m_rl_s μ) := by
  unfold m_rl_s
  split
  · exact m_sk_R h
  · rename_i h1
    split
    · exact m_sk_R h
    · split
      · exact m_u_R (m_q3_R (m_q2_R h h1)) _ (Or.inr rfl)
      · exact m_q4_R (m_q3_R (m_q2_R h h1))
theorem m_rp_R {μ : m_S} (h : m_R μ) (hlt : μ 17 0 < μ 18 0) : m_R (m_rp_s μ) := by
  have h4 := h.2.2.2.1
  have h1 := m_y1_R h hlt
  have h2 : m_R (m_y2 μ) := m_fg_R h1 1 3
  unfold m_rp_s
  split
  · exact h
  · split
    · exact h
    · split
      · exact h2
      · exact ⟨h2.1, h2.2.1, h2.2.2.1, ⟨by show 0 ≤ μ 22 0 + 1; omega, by show μ 22 0 + 1 ≤ 5; omega⟩, h2.2.2.2.2⟩
theorem m_fg_17 (μ : m_S) (lo hi : Int) : μ 17 0 ≤ m_fg_s μ lo hi 17 0 := by
  unfold m_fg_s
  split
  · exact Int.le_refl _
  · show μ 17 0 ≤ μ 17 0 + 1
    omega
theorem m_rp_17 {μ : m_S} (h : m_rp_v μ ≠ 0) : μ 17 0 + 1 ≤ m_rp_s μ 17 0 := by
  unfold m_rp_v at h
  unfold m_rp_s
  split at h
  · exact absurd rfl h
  · rename_i h1
    rw [if_neg h1]
    split at h
    · exact absurd rfl h
    · rename_i h2
      rw [if_neg h2]
      split at h
      · exact absurd rfl h
      · rename_i h3
        rw [if_neg h3]
        exact m_fg_17 (m_y1 μ) 1 3
theorem m_rp_18 (μ : m_S) : m_rp_s μ 18 = μ 18 := by
  have h : m_y2 μ 18 = μ 18 := m_fg_k (m_y1 μ) 1 3 (by decide)
  unfold m_rp_s
  (repeat' split) <;> first | rfl | exact h
def m_st (μ : m_S) : m_S := if m_rp_v μ = 0 then m_rp_s μ else m_sk (m_rp_s μ)
def m_lp : Nat → Int → m_S → Int × m_S
  | 0, i, μ => (i, μ)
  | k + 1, i, μ => if i ≠ 0 ∧ μ 17 0 < μ 18 0 then m_lp k (m_rp_v μ) (m_st μ) else (i, μ)
theorem m_lp_no {k : Nat} {i : Int} {μ : m_S} (h : ¬ (i ≠ 0 ∧ μ 17 0 < μ 18 0)) : m_lp k i μ = (i, μ) := by
  cases k with
  | zero => rfl
  | succ k => exact if_neg h
theorem m_lp_go {k : Nat} {i : Int} {μ : m_S} (hk : 0 < k) (h : i ≠ 0) (h2 : μ 17 0 < μ 18 0) : m_lp k i μ = m_lp (k - 1) (m_rp_v μ) (m_st μ) := by
  cases k with
  | zero => omega
  | succ k => exact if_pos ⟨h, h2⟩
theorem m_st_17 {ν : m_S} (h : m_R ν) (hlt : ν 17 0 < ν 18 0) (hv : m_rp_v ν ≠ 0) : m_sk (m_rp_s ν) 18 0 - m_sk (m_rp_s ν) 17 0 < ν 18 0 - ν 17 0 := by
  have e1 := m_rp_17 hv
  have e2 := z_skp_r (m_b (m_rp_s ν)) (m_rp_R h hlt).2.1.2
  have e3 := m_rp_18 ν
  have e4 : m_sk (m_rp_s ν) 17 0 = z_skp (m_b (m_rp_s ν)) (m_rp_s ν 18 0) (m_rp_s ν 17 0) := rfl
  have e5 : m_sk (m_rp_s ν) 18 0 = m_rp_s ν 18 0 := rfl
  rw [e5, e4]
  rw [e3] at e2 ⊢
  omega
theorem m_st_a {k : Nat} {i : Int} {ν : m_S} {x : Int × m_S} (hlp : m_lp k i ν = x) (hi : i ≠ 0) (hk : 0 < k) (hlt : ν 17 0 < ν 18 0) (h : m_rp_v ν = 0) : m_lp (k - 1) (m_rp_v ν) (m_rp_s ν) = x := by
  have e := m_lp_go (k := k) hk hi hlt
  unfold m_st at e
  rw [if_pos h] at e
  exact e.symm.trans hlp
theorem m_st_b {k : Nat} {i : Int} {ν : m_S} {x : Int × m_S} (hlp : m_lp k i ν = x) (hi : i ≠ 0) (hk : 0 < k) (hlt : ν 17 0 < ν 18 0) (h : m_rp_v ν ≠ 0) : m_lp (k - 1) (m_rp_v ν) (m_sk (m_rp_s ν)) = x := by
  have e := m_lp_go (k := k) hk hi hlt
  unfold m_st at e
  rw [if_neg h] at e
  exact e.symm.trans hlp
def m_f1 (μ : m_S) (t : Int) : m_S := m_u (m_u (m_u (m_u μ 16 (fun _ => 60 * t)) 17 (fun _ => 0)) 18 (fun _ => μ 9 t)) 22 (fun _ => 0)
def m_f2 (μ : m_S) (t : Int) : m_S := if m_rl_v (m_f1 μ t) = 0 then m_rl_s (m_f1 μ t) else m_sk (m_rl_s (m_f1 μ t))
def m_f3 (μ : m_S) (t : Int) : Int × m_S := m_lp 62 (m_rl_v (m_f1 μ t)) (m_f2 μ t)
def m_fo_v (μ : m_S) (t : Int) : Int := if (m_f3 μ t).1 ≠ 0 ∧ 0 < (m_f3 μ t).2 22 0 then -9 else (m_f3 μ t).2 17 0
def m_fo_s (μ : m_S) (t : Int) : m_S := (m_f3 μ t).2
theorem m_f1_R {μ : m_S} (hI : m_I μ) {t : Int} (h0 : 0 ≤ t) (h3 : t ≤ 3) (hl : 0 ≤ μ 9 t) : m_R (m_f1 μ t) := by
  have h := hI.ln t h0 h3
  exact ⟨⟨by show 0 ≤ 60 * t; omega, by show 60 * t ≤ 180; omega⟩, ⟨by show (0:Int) ≤ 0; omega, by show 0 ≤ μ 9 t; omega⟩, by show μ 9 t ≤ 60; omega, ⟨by show (0:Int) ≤ 0; omega, by show (0:Int) ≤ 5; omega⟩, hI.by8⟩
set_option maxRecDepth 20000 in
theorem tX12_faultOf (w : q_W) (μ : m_S) (t : Int) (h0 : 0 ≤ t) (h3 : t ≤ 3) (hl : 0 ≤ μ 9 t) (hI : m_I μ) : q_D mX12_faultOf 3 [.ref 64, q_i t] (m_w w μ) (some (q_i (m_fo_v μ t))) (m_w w (m_fo_s μ t)) := by
  refine q_T.of (lv := [some (.ref 64), some (q_i t), none]) (by decide) rfl (Nat.le_of_ble_eq_true rfl) ?_
  have hln := hI.ln t h0 h3
  have hR := m_f1_R hI h0 h3 hl
  refine q_aload_n dX12_faultOf_0 rfl ?_
  refine q_bipush dX12_faultOf_1 ?_
  refine q_iload_n dX12_faultOf_3 rfl ?_
  refine q_imul dX12_faultOf_4 ?_
  refine q_puti (fs := m_o μ) pX12_89_12 rfl (Nat.le_of_ble_eq_true rfl) dX12_faultOf_5 ?_
  rw [m_p16]
  refine q_aload_n dX12_faultOf_8 rfl ?_
  refine q_iconst dX12_faultOf_9 ?_
  refine q_puti (fs := m_o (m_u μ 16 (fun _ => (60 * t)))) pX12_92_12 rfl (Nat.le_of_ble_eq_true rfl) dX12_faultOf_10 ?_
  rw [m_p17]
  refine q_aload_n dX12_faultOf_13 rfl ?_
  refine q_aload_n dX12_faultOf_14 rfl ?_
  refine q_get (v := .ref 70) fX12_26_12 rfl rfl dX12_faultOf_15 ?_
  refine q_iload_n dX12_faultOf_18 rfl ?_
  refine q_iald (f := (μ 9)) (n9 := 4) rfl (by omega) (by omega) dX12_faultOf_19 ?_
  refine q_puti (fs := m_o (m_u (m_u μ 16 (fun _ => (60 * t))) 17 (fun _ => 0))) pX12_95_12 rfl (Nat.le_of_ble_eq_true rfl) dX12_faultOf_20 ?_
  rw [m_p18]
  refine q_aload_n dX12_faultOf_23 rfl ?_
  refine q_iconst dX12_faultOf_24 ?_
  refine q_puti (fs := m_o (m_u (m_u (m_u μ 16 (fun _ => (60 * t))) 17 (fun _ => 0)) 18 (fun _ => ((μ 9) t)))) pX12_117_12 rfl (Nat.le_of_ble_eq_true rfl) dX12_faultOf_25 ?_
  rw [m_p22]
  show q_J _ _ _ _ _ _ _ _ (m_w w (m_f1 μ t))
  refine q_aload_n dX12_faultOf_28 rfl ?_
  refine q_cV [] kX12_120_12 rfl (tX12_readsLock w (m_f1 μ t) hR) dX12_faultOf_29 rfl (by decide) (Nat.le_of_ble_eq_true rfl) rfl ?_
  refine q_istore_n (lv' := [some (.ref 64), some (q_i t), some (q_i (m_rl_v (m_f1 μ t)))]) dX12_faultOf_32 (by decide) rfl ?_
  refine q_iload_n dX12_faultOf_33 rfl ?_
  refine q_if_eq (tgt := 41) dX12_faultOf_34 (by decide) ⟨by have := m_rl_01 (m_f1 μ t); omega, by have := m_rl_01 (m_f1 μ t); omega⟩ (fun h34 => ?_) (fun h34 => ?_)
  · skip
    have L41 : ∀ (m9 : Nat) (k : Nat) (i : Int) (ν : m_S) (hν : m_R ν) (hi : i = 0 ∨ i = 1) (hk : i = 0 ∨ ν 18 0 - ν 17 0 < k) (hlp : m_lp k i ν = m_f3 μ t) (hm9 : (k : Int) < (m9 : Int)), q_J mX12_faultOf 3 (fun v' w' => v' = (some (q_i (m_fo_v μ t))) ∧ w' = (m_w w (m_fo_s μ t))) 0 0 41 [some (.ref 64), some (q_i t), some (q_i i)] [] (m_w w ν) := by
      intro m9
      induction m9 with
      | zero => intro k i ν hν hi hk hlp hm9; exact absurd hm9 (by omega)
      | succ m9 ih41 =>
        intro k i ν hν hi hk hlp hm9
        refine q_iload_n dX12_faultOf_41 rfl ?_
        refine q_if_eq (tgt := 72) dX12_faultOf_42 (by decide) ⟨by omega, by omega⟩ (fun h42 => ?_) (fun h42 => ?_)
        · skip
          have hν2 := hν.2.1
          have hν3 := hν.2.2.1
          have hν4 := hν.2.2.2.1
          refine q_iload_n dX12_faultOf_72 rfl ?_
          refine q_if_eq (tgt := 88) dX12_faultOf_73 (by decide) ⟨by omega, by omega⟩ (fun h73 => ?_) (fun h73 => ?_)
          · skip
            refine q_aload_n dX12_faultOf_88 rfl ?_
            refine q_get (v := q_i (ν 17 0)) fX12_92_12 rfl rfl dX12_faultOf_89 ?_
            exact q_iret rfl dX12_faultOf_92 (⟨by unfold m_fo_v; rw [← hlp, m_lp_no (by omega)]; (try dsimp only); split <;> first | rfl | (exfalso; omega), by unfold m_fo_s; rw [← hlp, m_lp_no (by omega)]⟩)
          · skip
            refine q_aload_n dX12_faultOf_76 rfl ?_
            refine q_get (v := q_i (ν 22 0)) fX12_117_12 rfl rfl dX12_faultOf_77 ?_
            refine q_if_le (tgt := 88) dX12_faultOf_80 (by decide) ⟨by omega, by omega⟩ (fun h80 => ?_) (fun h80 => ?_)
            · skip
              refine q_aload_n dX12_faultOf_88 rfl ?_
              refine q_get (v := q_i (ν 17 0)) fX12_92_12 rfl rfl dX12_faultOf_89 ?_
              exact q_iret rfl dX12_faultOf_92 (⟨by unfold m_fo_v; rw [← hlp, m_lp_no (by omega)]; (try dsimp only); split <;> first | rfl | (exfalso; omega), by unfold m_fo_s; rw [← hlp, m_lp_no (by omega)]⟩)
            · skip
              refine q_bipush dX12_faultOf_83 ?_
              refine q_goto (tgt := 92) dX12_faultOf_85 (by decide) ?_
              exact q_iret rfl dX12_faultOf_92 (⟨by unfold m_fo_v; rw [← hlp, m_lp_no (by omega)]; (try dsimp only); split <;> first | rfl | (exfalso; omega), by unfold m_fo_s; rw [← hlp, m_lp_no (by omega)]⟩)
        · skip
          refine q_aload_n dX12_faultOf_45 rfl ?_
          have hν2 := hν.2.1
          have hν3 := hν.2.2.1
          have hν4 := hν.2.2.2.1
          refine q_get (v := q_i (ν 17 0)) fX12_92_12 rfl rfl dX12_faultOf_46 ?_
          refine q_aload_n dX12_faultOf_49 rfl ?_
          refine q_get (v := q_i (ν 18 0)) fX12_95_12 rfl rfl dX12_faultOf_50 ?_
          refine q_icmp_ge (tgt := 72) dX12_faultOf_53 (by decide) ⟨by omega, by omega⟩ ⟨by omega, by omega⟩ (fun h53 => ?_) (fun h53 => ?_)
          · skip
            have hν2 := hν.2.1
            have hν3 := hν.2.2.1
            have hν4 := hν.2.2.2.1
            refine q_iload_n dX12_faultOf_72 rfl ?_
            refine q_if_eq (tgt := 88) dX12_faultOf_73 (by decide) ⟨by omega, by omega⟩ (fun h73 => ?_) (fun h73 => ?_)
            · skip
              refine q_aload_n dX12_faultOf_88 rfl ?_
              refine q_get (v := q_i (ν 17 0)) fX12_92_12 rfl rfl dX12_faultOf_89 ?_
              exact q_iret rfl dX12_faultOf_92 (⟨by unfold m_fo_v; rw [← hlp, m_lp_no (by omega)]; (try dsimp only); split <;> first | rfl | (exfalso; omega), by unfold m_fo_s; rw [← hlp, m_lp_no (by omega)]⟩)
            · skip
              refine q_aload_n dX12_faultOf_76 rfl ?_
              refine q_get (v := q_i (ν 22 0)) fX12_117_12 rfl rfl dX12_faultOf_77 ?_
              refine q_if_le (tgt := 88) dX12_faultOf_80 (by decide) ⟨by omega, by omega⟩ (fun h80 => ?_) (fun h80 => ?_)
              · skip
                refine q_aload_n dX12_faultOf_88 rfl ?_
                refine q_get (v := q_i (ν 17 0)) fX12_92_12 rfl rfl dX12_faultOf_89 ?_
                exact q_iret rfl dX12_faultOf_92 (⟨by unfold m_fo_v; rw [← hlp, m_lp_no (by omega)]; (try dsimp only); split <;> first | rfl | (exfalso; omega), by unfold m_fo_s; rw [← hlp, m_lp_no (by omega)]⟩)
              · skip
                refine q_bipush dX12_faultOf_83 ?_
                refine q_goto (tgt := 92) dX12_faultOf_85 (by decide) ?_
                exact q_iret rfl dX12_faultOf_92 (⟨by unfold m_fo_v; rw [← hlp, m_lp_no (by omega)]; (try dsimp only); split <;> first | rfl | (exfalso; omega), by unfold m_fo_s; rw [← hlp, m_lp_no (by omega)]⟩)
          · skip
            refine q_aload_n dX12_faultOf_56 rfl ?_
            refine q_cV [] kX12_124_12 rfl (tX12_readsPerson w ν hν (by omega)) dX12_faultOf_57 rfl (by decide) (Nat.le_of_ble_eq_true rfl) rfl ?_
            refine q_istore_n (lv' := [some (.ref 64), some (q_i t), some (q_i (m_rp_v ν))]) dX12_faultOf_60 (by decide) rfl ?_
            refine q_iload_n dX12_faultOf_61 rfl ?_
            refine q_if_eq (tgt := 41) dX12_faultOf_62 (by decide) ⟨by have := m_rp_01 ν; omega, by have := m_rp_01 ν; omega⟩ (fun h62 => ?_) (fun h62 => ?_)
            · skip
              exact q_Jle (q_le_s (rfl) (q_le_s (rfl) (q_le_s (rfl) (q_le_e _)))) (rfl) (rfl) (ih41 (k - 1) (m_rp_v ν) (m_rp_s ν) (m_rp_R hν (by omega)) (m_rp_01 _) (Or.inl h62) (m_st_a hlp h42 (by omega) h53 h62) (by omega))
            · skip
              refine q_aload_n dX12_faultOf_65 rfl ?_
              refine q_cVv [] kX12_102_12 rfl (tX12_skip w (m_rp_s ν) (m_rp_R hν (by omega))) dX12_faultOf_66 rfl (by decide) (Nat.le_of_ble_eq_true rfl) rfl ?_
              refine q_goto (tgt := 41) dX12_faultOf_69 (by decide) ?_
              exact q_Jle (q_le_s (rfl) (q_le_s (rfl) (q_le_s (rfl) (q_le_e _)))) (rfl) (rfl) (ih41 (k - 1) (m_rp_v ν) (m_sk (m_rp_s ν)) (m_sk_R (m_rp_R hν (by omega))) (m_rp_01 _) (Or.inr (by have := m_st_17 hν h53 h62; omega)) (m_st_b hlp h42 (by omega) h53 h62) (by omega))
    exact q_Jle (q_le_s (rfl) (q_le_s (rfl) (q_le_s (rfl) (q_le_e _)))) (rfl) (rfl) (L41 ((62 : Int).toNat + 1) 62 (m_rl_v (m_f1 μ t)) (m_rl_s (m_f1 μ t)) (m_rl_R hR) (m_rl_01 _) (by have := (m_rl_R hR).2; omega) (by unfold m_f3 m_f2; rw [if_pos h34]) (by omega))
  · skip
    refine q_aload_n dX12_faultOf_37 rfl ?_
    refine q_cVv [] kX12_102_12 rfl (tX12_skip w (m_rl_s (m_f1 μ t)) (m_rl_R hR)) dX12_faultOf_38 rfl (by decide) (Nat.le_of_ble_eq_true rfl) rfl ?_
    have L41 : ∀ (m9 : Nat) (k : Nat) (i : Int) (ν : m_S) (hν : m_R ν) (hi : i = 0 ∨ i = 1) (hk : i = 0 ∨ ν 18 0 - ν 17 0 < k) (hlp : m_lp k i ν = m_f3 μ t) (hm9 : (k : Int) < (m9 : Int)), q_J mX12_faultOf 3 (fun v' w' => v' = (some (q_i (m_fo_v μ t))) ∧ w' = (m_w w (m_fo_s μ t))) 0 0 41 [some (.ref 64), some (q_i t), some (q_i i)] [] (m_w w ν) := by
      intro m9
      induction m9 with
      | zero => intro k i ν hν hi hk hlp hm9; exact absurd hm9 (by omega)
      | succ m9 ih41 =>
        intro k i ν hν hi hk hlp hm9
        refine q_iload_n dX12_faultOf_41 rfl ?_
        refine q_if_eq (tgt := 72) dX12_faultOf_42 (by decide) ⟨by omega, by omega⟩ (fun h42 => ?_) (fun h42 => ?_)
        · skip
          have hν2 := hν.2.1
          have hν3 := hν.2.2.1
          have hν4 := hν.2.2.2.1
          refine q_iload_n dX12_faultOf_72 rfl ?_
          refine q_if_eq (tgt := 88) dX12_faultOf_73 (by decide) ⟨by omega, by omega⟩ (fun h73 => ?_) (fun h73 => ?_)
          · skip
            refine q_aload_n dX12_faultOf_88 rfl ?_
            refine q_get (v := q_i (ν 17 0)) fX12_92_12 rfl rfl dX12_faultOf_89 ?_
            exact q_iret rfl dX12_faultOf_92 (⟨by unfold m_fo_v; rw [← hlp, m_lp_no (by omega)]; (try dsimp only); split <;> first | rfl | (exfalso; omega), by unfold m_fo_s; rw [← hlp, m_lp_no (by omega)]⟩)
          · skip
            refine q_aload_n dX12_faultOf_76 rfl ?_
            refine q_get (v := q_i (ν 22 0)) fX12_117_12 rfl rfl dX12_faultOf_77 ?_
            refine q_if_le (tgt := 88) dX12_faultOf_80 (by decide) ⟨by omega, by omega⟩ (fun h80 => ?_) (fun h80 => ?_)
            · skip
              refine q_aload_n dX12_faultOf_88 rfl ?_
              refine q_get (v := q_i (ν 17 0)) fX12_92_12 rfl rfl dX12_faultOf_89 ?_
              exact q_iret rfl dX12_faultOf_92 (⟨by unfold m_fo_v; rw [← hlp, m_lp_no (by omega)]; (try dsimp only); split <;> first | rfl | (exfalso; omega), by unfold m_fo_s; rw [← hlp, m_lp_no (by omega)]⟩)
            · skip
              refine q_bipush dX12_faultOf_83 ?_
              refine q_goto (tgt := 92) dX12_faultOf_85 (by decide) ?_
              exact q_iret rfl dX12_faultOf_92 (⟨by unfold m_fo_v; rw [← hlp, m_lp_no (by omega)]; (try dsimp only); split <;> first | rfl | (exfalso; omega), by unfold m_fo_s; rw [← hlp, m_lp_no (by omega)]⟩)
        · skip
          refine q_aload_n dX12_faultOf_45 rfl ?_
          have hν2 := hν.2.1
          have hν3 := hν.2.2.1
          have hν4 := hν.2.2.2.1
          refine q_get (v := q_i (ν 17 0)) fX12_92_12 rfl rfl dX12_faultOf_46 ?_
          refine q_aload_n dX12_faultOf_49 rfl ?_
          refine q_get (v := q_i (ν 18 0)) fX12_95_12 rfl rfl dX12_faultOf_50 ?_
          refine q_icmp_ge (tgt := 72) dX12_faultOf_53 (by decide) ⟨by omega, by omega⟩ ⟨by omega, by omega⟩ (fun h53 => ?_) (fun h53 => ?_)
          · skip
            have hν2 := hν.2.1
            have hν3 := hν.2.2.1
            have hν4 := hν.2.2.2.1
            refine q_iload_n dX12_faultOf_72 rfl ?_
            refine q_if_eq (tgt := 88) dX12_faultOf_73 (by decide) ⟨by omega, by omega⟩ (fun h73 => ?_) (fun h73 => ?_)
            · skip
              refine q_aload_n dX12_faultOf_88 rfl ?_
              refine q_get (v := q_i (ν 17 0)) fX12_92_12 rfl rfl dX12_faultOf_89 ?_
              exact q_iret rfl dX12_faultOf_92 (⟨by unfold m_fo_v; rw [← hlp, m_lp_no (by omega)]; (try dsimp only); split <;> first | rfl | (exfalso; omega), by unfold m_fo_s; rw [← hlp, m_lp_no (by omega)]⟩)
            · skip
              refine q_aload_n dX12_faultOf_76 rfl ?_
              refine q_get (v := q_i (ν 22 0)) fX12_117_12 rfl rfl dX12_faultOf_77 ?_
              refine q_if_le (tgt := 88) dX12_faultOf_80 (by decide) ⟨by omega, by omega⟩ (fun h80 => ?_) (fun h80 => ?_)
              · skip
                refine q_aload_n dX12_faultOf_88 rfl ?_
                refine q_get (v := q_i (ν 17 0)) fX12_92_12 rfl rfl dX12_faultOf_89 ?_
                exact q_iret rfl dX12_faultOf_92 (⟨by unfold m_fo_v; rw [← hlp, m_lp_no (by omega)]; (try dsimp only); split <;> first | rfl | (exfalso; omega), by unfold m_fo_s; rw [← hlp, m_lp_no (by omega)]⟩)
              · skip
                refine q_bipush dX12_faultOf_83 ?_
                refine q_goto (tgt := 92) dX12_faultOf_85 (by decide) ?_
                exact q_iret rfl dX12_faultOf_92 (⟨by unfold m_fo_v; rw [← hlp, m_lp_no (by omega)]; (try dsimp only); split <;> first | rfl | (exfalso; omega), by unfold m_fo_s; rw [← hlp, m_lp_no (by omega)]⟩)
          · skip
            refine q_aload_n dX12_faultOf_56 rfl ?_
            refine q_cV [] kX12_124_12 rfl (tX12_readsPerson w ν hν (by omega)) dX12_faultOf_57 rfl (by decide) (Nat.le_of_ble_eq_true rfl) rfl ?_
            refine q_istore_n (lv' := [some (.ref 64), some (q_i t), some (q_i (m_rp_v ν))]) dX12_faultOf_60 (by decide) rfl ?_
            refine q_iload_n dX12_faultOf_61 rfl ?_
            refine q_if_eq (tgt := 41) dX12_faultOf_62 (by decide) ⟨by have := m_rp_01 ν; omega, by have := m_rp_01 ν; omega⟩ (fun h62 => ?_) (fun h62 => ?_)
            · skip
              exact q_Jle (q_le_s (rfl) (q_le_s (rfl) (q_le_s (rfl) (q_le_e _)))) (rfl) (rfl) (ih41 (k - 1) (m_rp_v ν) (m_rp_s ν) (m_rp_R hν (by omega)) (m_rp_01 _) (Or.inl h62) (m_st_a hlp h42 (by omega) h53 h62) (by omega))
            · skip
              refine q_aload_n dX12_faultOf_65 rfl ?_
              refine q_cVv [] kX12_102_12 rfl (tX12_skip w (m_rp_s ν) (m_rp_R hν (by omega))) dX12_faultOf_66 rfl (by decide) (Nat.le_of_ble_eq_true rfl) rfl ?_
              refine q_goto (tgt := 41) dX12_faultOf_69 (by decide) ?_
              exact q_Jle (q_le_s (rfl) (q_le_s (rfl) (q_le_s (rfl) (q_le_e _)))) (rfl) (rfl) (ih41 (k - 1) (m_rp_v ν) (m_sk (m_rp_s ν)) (m_sk_R (m_rp_R hν (by omega))) (m_rp_01 _) (Or.inr (by have := m_st_17 hν h53 h62; omega)) (m_st_b hlp h42 (by omega) h53 h62) (by omega))
    exact q_Jle (q_le_s (rfl) (q_le_s (rfl) (q_le_s (rfl) (q_le_e _)))) (rfl) (rfl) (L41 ((62 : Int).toNat + 1) 62 (m_rl_v (m_f1 μ t)) (m_sk (m_rl_s (m_f1 μ t))) (m_sk_R (m_rl_R hR)) (m_rl_01 _) (by have := (m_sk_R (m_rl_R hR)).2; omega) (by unfold m_f3 m_f2; rw [if_neg h34]) (by omega))
/-- a lock was read, and persons -/
def m_Rd (ν : m_S) : Prop := (1 ≤ ν 19 0 ∧ ν 19 0 ≤ 3) ∧ (4 ≤ ν 20 0 ∧ ν 20 0 ≤ 6) ∧ ∀ p, 0 ≤ p → p < ν 22 0 → (0 ≤ ν 21 (2 * p) ∧ ν 21 (2 * p) ≤ 5) ∧ 1 ≤ ν 21 (2 * p + 1) ∧ ν 21 (2 * p + 1) ≤ 3
theorem m_fg_in {μ : m_S} {lo hi : Int} (h : m_fg_v μ lo hi ≠ -9) : lo ≤ m_fg_v μ lo hi ∧ m_fg_v μ lo hi ≤ hi := by
  unfold m_fg_v at *
  split at h
  · exact absurd rfl h
  · rename_i h1
    rw [if_neg h1]
    omega
theorem m_sk_k (μ : m_S) {k : Nat} (hk : k ≠ 17) : m_sk μ k = μ k := m_un hk
theorem m_rl_k (μ : m_S) {k : Nat} (h17 : k ≠ 17) (h19 : k ≠ 19) (h20 : k ≠ 20) : m_rl_s μ k = μ k := by
  have e2 : m_q2 μ k = μ k := by unfold m_q2; rw [m_un h17, m_sk_k μ h17]
  have e3 : m_q3 μ k = μ k := by unfold m_q3; rw [m_un h19, m_fg_k _ _ _ h17, e2]
  have e4 : m_q4 μ k = μ k := by unfold m_q4; rw [m_un h20, m_fg_k _ _ _ h17, e3]
  unfold m_rl_s
  split
  · exact m_sk_k μ h17
  · split
    · exact m_sk_k μ h17
    · split
      · rw [m_un h20, e3]
      · exact e4
theorem m_rp_k (μ : m_S) {k : Nat} (h17 : k ≠ 17) (h21 : k ≠ 21) (h22 : k ≠ 22) : m_rp_s μ k = μ k := by
  have e2 : m_y2 μ k = μ k := by unfold m_y2; rw [m_fg_k _ _ _ h17]; exact m_un h17
  unfold m_rp_s
  split
  · rfl
  · split
    · rfl
    · split
      · exact e2
      · unfold m_y3
        rw [m_un h22, m_un h21, e2]
theorem m_rl_Rd {μ : m_S} (h : m_rl_v μ ≠ 0) (h22 : μ 22 0 = 0) : m_Rd (m_rl_s μ) := by
  have hk : m_rl_s μ 22 = μ 22 := m_rl_k μ (by decide) (by decide) (by decide)
  have h22' : m_rl_s μ 22 0 = 0 := by rw [hk]; exact h22
  have hx : (1 ≤ m_rl_s μ 19 0 ∧ m_rl_s μ 19 0 ≤ 3) ∧ (4 ≤ m_rl_s μ 20 0 ∧ m_rl_s μ 20 0 ≤ 6) := by
    unfold m_rl_v at h
    unfold m_rl_s
    split at h
    · exact absurd rfl h
    · rename_i h1
      rw [if_neg h1]
      split at h
      · exact absurd rfl h
      · rename_i h2
        rw [if_neg h2]
        split at h
        · exact absurd rfl h
        · rename_i h3
          rw [if_neg h3]
          split at h
          · exact absurd rfl h
          · rename_i h4
            have e1 : m_q4 μ 19 = m_q3 μ 19 := by
              unfold m_q4
              rw [m_un (by decide), m_fg_k _ _ _ (by decide)]
            have e2 : m_q4 μ 20 0 = m_fg_v (m_q3 μ) 4 6 := rfl
            have e3 : m_q3 μ 19 0 = m_fg_v (m_q2 μ) 1 3 := rfl
            rw [e1, e2, e3]
            exact ⟨m_fg_in h3, m_fg_in h4⟩
  exact ⟨hx.1, hx.2, fun p h0 h1 => by omega⟩
theorem m_rp_Rd {μ : m_S} (hR : m_R μ) (h : m_rp_v μ ≠ 0) (hd : m_Rd μ) : m_Rd (m_rp_s μ) := by
  have h4 := hR.2.2.2.1
  have e19 := m_rp_k μ (k := 19) (by decide) (by decide) (by decide)
  have e20 := m_rp_k μ (k := 20) (by decide) (by decide) (by decide)
  refine ⟨by rw [e19]; exact hd.1, by rw [e20]; exact hd.2.1, ?_⟩
  unfold m_rp_v at h
  unfold m_rp_s
  split at h
  · exact absurd rfl h
  · rename_i h1
    rw [if_neg h1]
    split at h
    · exact absurd rfl h
    · rename_i h2
      rw [if_neg h2]
      split at h
      · exact absurd rfl h
      · rename_i h3
        rw [if_neg h3]
        intro p hp0 hp1
        have hp1' : p < μ 22 0 + 1 := hp1
        have g1 := z_kd_r (m_b μ (μ 17 0))
        have g2 : 0 ≤ m_k0 μ := z_kd_0 h1
        have g3 : 1 ≤ m_f0 μ ∧ m_f0 μ ≤ 3 := m_fg_in h3
        have g4 : m_k0 μ ≤ 5 := g1.2
        show (0 ≤ m_rpa μ (2 * p) ∧ m_rpa μ (2 * p) ≤ 5) ∧ 1 ≤ m_rpa μ (2 * p + 1) ∧ m_rpa μ (2 * p + 1) ≤ 3
        unfold m_rpa
        by_cases e : p = μ 22 0
        · subst e
          rw [q_us_n (by omega), q_us_s, q_us_s]
          exact ⟨⟨g2, g4⟩, g3⟩
        · rw [q_us_n (by omega), q_us_n (by omega), q_us_n (by omega), q_us_n (by omega)]
          exact hd.2.2 p hp0 (by omega)
theorem m_st_R {μ : m_S} (h : m_R μ) (hlt : μ 17 0 < μ 18 0) : m_R (m_st μ) := by
  unfold m_st
  split
  · exact m_rp_R h hlt
  · exact m_sk_R (m_rp_R h hlt)
theorem m_lp_R : ∀ (k : Nat) (i : Int) (μ : m_S), m_R μ → (i ≠ 0 → m_Rd μ) → m_R (m_lp k i μ).2 ∧ ((m_lp k i μ).1 ≠ 0 → m_Rd (m_lp k i μ).2)
  | 0, i, μ, h, hd => ⟨h, hd⟩
  | k + 1, i, μ, h, hd => by
    by_cases hc : i ≠ 0 ∧ μ 17 0 < μ 18 0
    · rw [show m_lp (k + 1) i μ = m_lp k (m_rp_v μ) (m_st μ) from if_pos hc]
      refine m_lp_R k _ _ (m_st_R h hc.2) (fun hv => ?_)
      unfold m_st
      rw [if_neg hv]
      exact m_rp_Rd h hv (hd hc.1)
    · rw [show m_lp (k + 1) i μ = (i, μ) from if_neg hc]
      exact ⟨h, hd⟩
theorem m_st_k (μ : m_S) {k : Nat} (h17 : k ≠ 17) (h21 : k ≠ 21) (h22 : k ≠ 22) : m_st μ k = μ k := by
  unfold m_st
  split
  · exact m_rp_k μ h17 h21 h22
  · rw [m_sk_k _ h17, m_rp_k μ h17 h21 h22]
theorem m_lp_k {j : Nat} (h17 : j ≠ 17) (h21 : j ≠ 21) (h22 : j ≠ 22) : ∀ (k : Nat) (i : Int) (μ : m_S), (m_lp k i μ).2 j = μ j
  | 0, _, _ => rfl
  | k + 1, i, μ => by
    by_cases hc : i ≠ 0 ∧ μ 17 0 < μ 18 0
    · rw [show m_lp (k + 1) i μ = m_lp k (m_rp_v μ) (m_st μ) from if_pos hc, m_lp_k h17 h21 h22 k]
      exact m_st_k μ h17 h21 h22
    · rw [show m_lp (k + 1) i μ = (i, μ) from if_neg hc]
theorem m_fo_k (μ : m_S) (t : Int) {j : Nat} (h : j < 16 ∨ 22 < j) : m_fo_s μ t j = μ j := by
  unfold m_fo_s m_f3
  rw [m_lp_k (by omega) (by omega) (by omega)]
  have e : m_rl_s (m_f1 μ t) j = μ j := by
    rw [m_rl_k _ (by omega) (by omega) (by omega)]
    unfold m_f1
    rw [m_un (by omega), m_un (by omega), m_un (by omega), m_un (by omega)]
  unfold m_f2
  split
  · exact e
  · rw [m_sk_k _ (by omega), e]
theorem m_fo_Rd {μ : m_S} {t : Int} (hR : m_R (m_f1 μ t)) (h : m_fo_v μ t = -9) : m_R (m_fo_s μ t) ∧ m_Rd (m_fo_s μ t) ∧ 0 < m_fo_s μ t 22 0 := by
  have h2 : m_R (m_f2 μ t) := by
    unfold m_f2
    split
    · exact m_rl_R hR
    · exact m_sk_R (m_rl_R hR)
  have h3 := m_lp_R 62 (m_rl_v (m_f1 μ t)) (m_f2 μ t) h2 (fun hv => by
    unfold m_f2
    rw [if_neg hv]
    exact m_rl_Rd hv rfl)
  have h4 : m_R (m_f3 μ t).2 := h3.1
  unfold m_fo_v at h
  split at h
  · rename_i hc
    exact ⟨h4, h3.2 hc.1, hc.2⟩
  · have := h4.2.1
    omega
theorem m_fo_r {μ : m_S} {t : Int} (hR : m_R (m_f1 μ t)) : -9 ≤ m_fo_v μ t ∧ m_fo_v μ t ≤ 60 := by
  have h2 : m_R (m_f2 μ t) := by
    unfold m_f2
    split
    · exact m_rl_R hR
    · exact m_sk_R (m_rl_R hR)
  have h3 := m_lp_R 62 (m_rl_v (m_f1 μ t)) (m_f2 μ t) h2 (fun hv => by
    unfold m_f2
    rw [if_neg hv]
    exact m_rl_Rd hv rfl)
  have h4 : m_R (m_f3 μ t).2 := h3.1
  have h5 := h4.2.1
  have h6 := h4.2.2.1
  unfold m_fo_v
  split <;> omega
def m_fault_v (μ : m_S) (t : Int) : Int := if ¬ (0 ≤ t ∧ t ≤ 3) then -1 else if μ 9 t < 0 then -3 else m_fo_v μ t
def m_fault_s (μ : m_S) (t : Int) : m_S := if ¬ (0 ≤ t ∧ t ≤ 3) then μ else if μ 9 t < 0 then m_find μ 1 else m_fo_s μ t
set_option maxRecDepth 20000 in
theorem tX12_fault (w : q_W) (μ : m_S) (t : Int) (ht : q_r t) (hI : m_I μ) : q_D mX12_fault 4 [.ref 64, q_i t] (m_w w μ) (some (q_i (m_fault_v μ t))) (m_w w (m_fault_s μ t)) := by
  refine q_T.of (lv := [some (.ref 64), some (q_i t)]) (by decide) rfl (Nat.le_of_ble_eq_true rfl) ?_
  refine q_iload_n dX12_fault_0 rfl ?_
  refine q_cS [q_i t] kX12_86 (tX12_isText (m_w w μ) t (ht)) dX12_fault_1 rfl (by decide) (Nat.le_of_ble_eq_true rfl) rfl ?_
  refine q_ifb_ne (tgt := 9) dX12_fault_4 (by decide) (fun h4 => ?_) (fun h4 => ?_)
  · skip
    have hln := hI.ln t (by omega) (by omega)
    refine q_aload_n dX12_fault_9 rfl ?_
    refine q_get (v := .ref 70) fX12_26_12 rfl rfl dX12_fault_10 ?_
    refine q_iload_n dX12_fault_13 rfl ?_
    refine q_iald (f := (μ 9)) (n9 := 4) rfl (by omega) (by omega) dX12_fault_14 ?_
    refine q_if_ge (tgt := 26) dX12_fault_15 (by decide) ⟨by omega, by omega⟩ (fun h15 => ?_) (fun h15 => ?_)
    · skip
      refine q_aload_n dX12_fault_26 rfl ?_
      refine q_iload_n dX12_fault_27 rfl ?_
      refine q_cV [q_i t] kX12_127_12 rfl (tX12_faultOf w μ t (by omega) (by omega) (by omega) hI) dX12_fault_28 rfl (by decide) (Nat.le_of_ble_eq_true rfl) rfl ?_
      exact q_iret rfl dX12_fault_31 (⟨by (unfold m_fault_v; (repeat' split) <;> first | rfl | (exfalso; omega)), by (unfold m_fault_s; (repeat' split) <;> first | rfl | (exfalso; omega))⟩)
    · skip
      refine q_aload_n dX12_fault_18 rfl ?_
      refine q_iconst dX12_fault_19 ?_
      refine q_cV [q_i 1] kX12_67_12 rfl (tX12_find w μ 1 (by decide) (by decide)) dX12_fault_20 rfl (by decide) (Nat.le_of_ble_eq_true rfl) rfl ?_
      refine q_goto (tgt := 31) dX12_fault_23 (by decide) ?_
      exact q_iret rfl dX12_fault_31 (⟨by (unfold m_fault_v; (repeat' split) <;> first | rfl | (exfalso; omega)), by (unfold m_fault_s; (repeat' split) <;> first | rfl | (exfalso; omega))⟩)
  · skip
    refine q_iconst dX12_fault_7 ?_
    exact q_iret rfl dX12_fault_8 (⟨by (unfold m_fault_v; (repeat' split) <;> first | rfl | (exfalso; omega)), by (unfold m_fault_s; (repeat' split) <;> first | rfl | (exfalso; omega))⟩)
def m_sh_k (ν : m_S) (p : Int) : Int → Int := fun j => if 0 ≤ j ∧ j < p then ν 21 (2 * j) else ν 5 j
def m_sh_f (ν : m_S) (p : Int) : Int → Int := fun j => if 1 ≤ j ∧ j < 1 + p then ν 21 (2 * (j - 1) + 1) else q_fl (ν 0) 0 38 0 j
def m_sh_r (ν : m_S) (k : Int) : Int → Int := fun j => if (j = 38 ∧ 1 < k) ∨ (j = 76 ∧ 2 < k) ∨ (j = 114 ∧ 3 < k) then -1 else m_sh_f ν (ν 22 0) j
theorem m_sh_k_0 (ν : m_S) : m_sh_k ν 0 = ν 5 := by
  funext j
  unfold m_sh_k
  rw [if_neg (by omega)]
theorem m_sh_k_s (ν : m_S) {p : Int} (h : 0 ≤ p) : q_us (m_sh_k ν p) p (ν 21 (2 * p)) = m_sh_k ν (p + 1) := by
  funext j
  unfold q_us m_sh_k
  by_cases e : j = p
  · rw [if_pos e, if_pos (by omega), e]
  · rw [if_neg e]
    by_cases h2 : 0 ≤ j ∧ j < p
    · rw [if_pos h2, if_pos (by omega)]
    · rw [if_neg h2, if_neg (by omega)]
theorem m_sh_f_0 (ν : m_S) : m_sh_f ν 0 = q_fl (ν 0) 0 38 0 := by
  funext j
  unfold m_sh_f
  rw [if_neg (by omega)]
theorem m_sh_f_s (ν : m_S) {p : Int} (h : 0 ≤ p) : q_us (m_sh_f ν p) (1 + p) (ν 21 (2 * p + 1)) = m_sh_f ν (p + 1) := by
  funext j
  unfold q_us m_sh_f
  by_cases e : j = 1 + p
  · rw [if_pos e, if_pos (by omega), e, show 1 + p - 1 = p by omega]
  · rw [if_neg e]
    by_cases h2 : 1 ≤ j ∧ j < 1 + p
    · rw [if_pos h2, if_pos (by omega)]
    · rw [if_neg h2, if_neg (by omega)]
theorem m_sh_r_1 (ν : m_S) : m_sh_r ν 1 = m_sh_f ν (ν 22 0) := by
  funext j
  unfold m_sh_r
  rw [if_neg (by omega)]
theorem m_sh_r_s (ν : m_S) {k : Int} (h : 1 ≤ k) (h4 : k < 4) : q_us (m_sh_r ν k) (38 * k) (-1) = m_sh_r ν (k + 1) := by
  funext j
  unfold q_us m_sh_r
  by_cases e : j = 38 * k
  · rw [if_pos e, if_pos (by omega)]
  · rw [if_neg e]
    by_cases h2 : (j = 38 ∧ 1 < k) ∨ (j = 76 ∧ 2 < k) ∨ (j = 114 ∧ 3 < k)
    · rw [if_pos h2, if_pos (by omega)]
    · rw [if_neg h2, if_neg (by omega)]
def m_sh4 (ν : m_S) : m_S := m_u (m_u (m_u (m_u ν 1 (fun _ => ν 19 0)) 2 (fun _ => ν 20 0)) 3 (fun _ => z_pw (ν 20 0) (ν 19 0))) 4 (fun _ => ν 22 0)
def m_sh5 (ν : m_S) (f g : Int → Int) : m_S := m_u (m_u (m_sh4 ν) 5 f) 0 g
theorem m_sh5_0 (ν : m_S) (f g h : Int → Int) : m_u (m_sh5 ν f g) 0 h = m_sh5 ν f h := m_uu _ 0 g h
theorem m_sh5_5 (ν : m_S) (f g h : Int → Int) : m_u (m_sh5 ν f g) 5 h = m_sh5 ν h g := by
  unfold m_sh5
  rw [m_uc _ g h (by decide), m_uu]
theorem m_sh5_i (ν : m_S) : m_sh4 ν = m_sh5 ν (ν 5) (ν 0) := by
  unfold m_sh5
  rw [show ν 5 = m_sh4 ν 5 from rfl, show ν 0 = m_u (m_sh4 ν) 5 (m_sh4 ν 5) 0 from rfl, m_uid, m_uid]
def m_shd (ν : m_S) : m_S := m_sh5 ν (m_sh_k ν (ν 22 0)) (m_sh_r ν 4)
theorem m_shd_G {ν : m_S} (hR : m_R ν) (hd : m_Rd ν) (h : 0 < ν 22 0) : m_G (m_shd ν) := by
  have h4 := hR.2.2.2.1
  refine ⟨hd.1, hd.2.1, rfl, ⟨by show 1 ≤ ν 22 0; omega, by show ν 22 0 ≤ 5; omega⟩, fun p h0 h1 => ?_⟩
  have h1' : p < ν 22 0 := h1
  have h2 := hd.2.2 p h0 h1'
  show 0 ≤ m_sh_k ν (ν 22 0) p ∧ m_sh_k ν (ν 22 0) p ≤ 5 ∧ 1 ≤ m_sh_r ν 4 (1 + p) ∧ m_sh_r ν 4 (1 + p) ≤ 3
  have e1 : m_sh_k ν (ν 22 0) p = ν 21 (2 * p) := by unfold m_sh_k; rw [if_pos (by omega)]
  have e2 : m_sh_r ν 4 (1 + p) = ν 21 (2 * p + 1) := by
    unfold m_sh_r m_sh_f
    rw [if_neg (by omega), if_pos (by omega), show 1 + p - 1 = p by omega]
  rw [e1, e2]
  exact ⟨h2.1.1, h2.1.2, h2.2.1, h2.2.2⟩
theorem m_shd_0 (ν : m_S) : m_shd ν 0 0 = 0 := by
  show m_sh_r ν 4 0 = 0
  unfold m_sh_r m_sh_f q_fl
  rw [if_neg (by omega), if_neg (by omega), if_pos (by omega)]
theorem m_shd_D (ν : m_S) : m_De (m_shd ν) := by
  have h := m_shd_0 ν
  exact ⟨by omega, fun d h0 h1 => by omega⟩
def m_shed_v (μ : m_S) (t : Int) : Int := if ¬ (0 ≤ t ∧ t ≤ 3) then -1 else if μ 9 t < 0 then -3 else if m_fo_v μ t ≠ -9 then -4 else m_fo_s μ t 22 0
def m_shed_s (μ : m_S) (t : Int) : m_S := if ¬ (0 ≤ t ∧ t ≤ 3) then μ else if μ 9 t < 0 then m_find μ 1 else if m_fo_v μ t ≠ -9 then m_fo_s μ t else m_lw (m_shd (m_fo_s μ t))
set_option maxRecDepth 20000 in
theorem tX12_shed (w : q_W) (μ : m_S) (t : Int) (ht : q_r t) (hI : m_I μ) : q_D mX12_shed 7 [.ref 64, q_i t] (m_w w μ) (some (q_i (m_shed_v μ t))) (m_w w (m_shed_s μ t)) := by
  refine q_T.of (lv := [some (.ref 64), some (q_i t), none]) (by decide) rfl (Nat.le_of_ble_eq_true rfl) ?_
  refine q_iload_n dX12_shed_0 rfl ?_
  refine q_cS [q_i t] kX12_86 (tX12_isText (m_w w μ) t (ht)) dX12_shed_1 rfl (by decide) (Nat.le_of_ble_eq_true rfl) rfl ?_
  refine q_ifb_ne (tgt := 9) dX12_shed_4 (by decide) (fun h4 => ?_) (fun h4 => ?_)
  · skip
    have hln := hI.ln t (by omega) (by omega)
    refine q_aload_n dX12_shed_9 rfl ?_
    refine q_get (v := .ref 70) fX12_26_12 rfl rfl dX12_shed_10 ?_
    refine q_iload_n dX12_shed_13 rfl ?_
    refine q_iald (f := (μ 9)) (n9 := 4) rfl (by omega) (by omega) dX12_shed_14 ?_
    refine q_if_ge (tgt := 24) dX12_shed_15 (by decide) ⟨by omega, by omega⟩ (fun h15 => ?_) (fun h15 => ?_)
    · skip
      have hR := m_f1_R hI (t := t) (by omega) (by omega) (by omega)
      refine q_aload_n dX12_shed_24 rfl ?_
      refine q_iload_n dX12_shed_25 rfl ?_
      refine q_cV [q_i t] kX12_127_12 rfl (tX12_faultOf w μ t (by omega) (by omega) (by omega) hI) dX12_shed_26 rfl (by decide) (Nat.le_of_ble_eq_true rfl) rfl ?_
      refine q_bipush dX12_shed_29 ?_
      refine q_icmp_eq (tgt := 37) dX12_shed_31 (by decide) ⟨by have := m_fo_r hR; omega, by have := m_fo_r hR; omega⟩ ⟨by decide, by decide⟩ (fun h31 => ?_) (fun h31 => ?_)
      · skip
        obtain ⟨hν, hd, hm⟩ := m_fo_Rd hR h31
        have hν4 := hν.2.2.2.1
        have hd1 := hd.1
        have hd2 := hd.2.1
        refine q_aload_n dX12_shed_37 rfl ?_
        refine q_aload_n dX12_shed_38 rfl ?_
        refine q_get (v := q_i ((m_fo_s μ t) 19 0)) fX12_108_12 rfl rfl dX12_shed_39 ?_
        refine q_puti (fs := m_o (m_fo_s μ t)) pX12_130_12 rfl (Nat.le_of_ble_eq_true rfl) dX12_shed_42 ?_
        rw [m_p1]
        refine q_aload_n dX12_shed_45 rfl ?_
        refine q_aload_n dX12_shed_46 rfl ?_
        refine q_get (v := q_i ((m_fo_s μ t) 20 0)) fX12_111_12 rfl rfl dX12_shed_47 ?_
        refine q_puti (fs := m_o (m_u (m_fo_s μ t) 1 (fun _ => ((m_fo_s μ t) 19 0)))) pX12_133_12 rfl (Nat.le_of_ble_eq_true rfl) dX12_shed_50 ?_
        rw [m_p2]
        refine q_aload_n dX12_shed_53 rfl ?_
        refine q_aload_n dX12_shed_54 rfl ?_
        refine q_get (v := q_i ((m_fo_s μ t) 20 0)) fX12_133_12 rfl rfl dX12_shed_55 ?_
        refine q_aload_n dX12_shed_58 rfl ?_
        refine q_get (v := q_i ((m_fo_s μ t) 19 0)) fX12_130_12 rfl rfl dX12_shed_59 ?_
        refine q_cS [q_i ((m_fo_s μ t) 20 0), q_i ((m_fo_s μ t) 19 0)] kX12_136 (tX12_power (m_w w (m_u (m_u (m_fo_s μ t) 1 (fun _ => ((m_fo_s μ t) 19 0))) 2 (fun _ => ((m_fo_s μ t) 20 0)))) ((m_fo_s μ t) 20 0) ((m_fo_s μ t) 19 0) ⟨by omega, by omega⟩ (by omega)) dX12_shed_62 rfl (by decide) (Nat.le_of_ble_eq_true rfl) rfl ?_
        refine q_puti (fs := m_o (m_u (m_u (m_fo_s μ t) 1 (fun _ => ((m_fo_s μ t) 19 0))) 2 (fun _ => ((m_fo_s μ t) 20 0)))) pX12_139_12 rfl (Nat.le_of_ble_eq_true rfl) dX12_shed_65 ?_
        rw [m_p3]
        refine q_aload_n dX12_shed_68 rfl ?_
        refine q_aload_n dX12_shed_69 rfl ?_
        refine q_get (v := q_i ((m_fo_s μ t) 22 0)) fX12_117_12 rfl rfl dX12_shed_70 ?_
        refine q_puti (fs := m_o (m_u (m_u (m_u (m_fo_s μ t) 1 (fun _ => ((m_fo_s μ t) 19 0))) 2 (fun _ => ((m_fo_s μ t) 20 0))) 3 (fun _ => (z_pw ((m_fo_s μ t) 20 0) ((m_fo_s μ t) 19 0))))) pX12_142_12 rfl (Nat.le_of_ble_eq_true rfl) dX12_shed_73 ?_
        rw [m_p4]
        show q_J _ _ _ _ _ _ _ _ (m_w w (m_sh4 (m_fo_s μ t)))
        rw [m_sh5_i (m_fo_s μ t)]
        refine q_iconst dX12_shed_76 ?_
        refine q_istore_n (lv' := [some (.ref 64), some (q_i t), some (q_i 0)]) dX12_shed_77 (by decide) rfl ?_
        have L78 : ∀ (m9 : Nat) (k : Int) (hk0 : 0 ≤ k) (hk1 : k ≤ 38) (hm9 : 38 - k < (m9 : Int)), q_J mX12_shed 7 (fun v' w' => v' = (some (q_i (m_shed_v μ t))) ∧ w' = (m_w w (m_shed_s μ t))) 0 0 78 [some (.ref 64), some (q_i t), some (q_i k)] [] (m_w w (m_sh5 (m_fo_s μ t) ((m_fo_s μ t) 5) (q_fl ((m_fo_s μ t) 0) 0 k 0))) := by
          intro m9
          induction m9 with
          | zero => intro k hk0 hk1 hm9; exact absurd hm9 (by omega)
          | succ m9 ih78 =>
            intro k hk0 hk1 hm9
            refine q_iload_n dX12_shed_78 rfl ?_
            refine q_bipush dX12_shed_79 ?_
            refine q_icmp_ge (tgt := 97) dX12_shed_81 (by decide) ⟨by omega, by omega⟩ ⟨by decide, by decide⟩ (fun h81 => ?_) (fun h81 => ?_)
            · skip
              refine q_iconst dX12_shed_97 ?_
              refine q_istore_n (lv' := [some (.ref 64), some (q_i t), some (q_i 0)]) dX12_shed_98 (by decide) rfl ?_
              have L99 : ∀ (m9 : Nat) (p : Int) (hp0 : 0 ≤ p) (hp1 : p ≤ (m_fo_s μ t) 22 0) (hm9 : (m_fo_s μ t) 22 0 - p < (m9 : Int)), q_J mX12_shed 7 (fun v' w' => v' = (some (q_i (m_shed_v μ t))) ∧ w' = (m_w w (m_shed_s μ t))) 0 0 99 [some (.ref 64), some (q_i t), some (q_i p)] [] (m_w w (m_sh5 (m_fo_s μ t) (m_sh_k (m_fo_s μ t) p) (m_sh_f (m_fo_s μ t) p))) := by
                intro m9
                induction m9 with
                | zero => intro p hp0 hp1 hm9; exact absurd hm9 (by omega)
                | succ m9 ih99 =>
                  intro p hp0 hp1 hm9
                  refine q_iload_n dX12_shed_99 rfl ?_
                  refine q_aload_n dX12_shed_100 rfl ?_
                  refine q_get (v := q_i ((m_fo_s μ t) 22 0)) fX12_142_12 rfl rfl dX12_shed_101 ?_
                  refine q_icmp_ge (tgt := 145) dX12_shed_104 (by decide) ⟨by omega, by omega⟩ ⟨by omega, by omega⟩ (fun h104 => ?_) (fun h104 => ?_)
                  · skip
                    refine q_iconst dX12_shed_145 ?_
                    refine q_istore_n (lv' := [some (.ref 64), some (q_i t), some (q_i 1)]) dX12_shed_146 (by decide) rfl ?_
                    have L147 : ∀ (m9 : Nat) (k2 : Int) (hk20 : 1 ≤ k2) (hk21 : k2 ≤ 4) (hm9 : 4 - k2 < (m9 : Int)), q_J mX12_shed 7 (fun v' w' => v' = (some (q_i (m_shed_v μ t))) ∧ w' = (m_w w (m_shed_s μ t))) 0 0 147 [some (.ref 64), some (q_i t), some (q_i k2)] [] (m_w w (m_sh5 (m_fo_s μ t) (m_sh_k (m_fo_s μ t) ((m_fo_s μ t) 22 0)) (m_sh_r (m_fo_s μ t) k2))) := by
                      intro m9
                      induction m9 with
                      | zero => intro k2 hk20 hk21 hm9; exact absurd hm9 (by omega)
                      | succ m9 ih147 =>
                        intro k2 hk20 hk21 hm9
                        refine q_iload_n dX12_shed_147 rfl ?_
                        refine q_iconst dX12_shed_148 ?_
                        refine q_icmp_ge (tgt := 170) dX12_shed_149 (by decide) ⟨by omega, by omega⟩ ⟨by decide, by decide⟩ (fun h149 => ?_) (fun h149 => ?_)
                        · skip
                          rw [show k2 = 4 by omega]
                          show q_J _ _ _ _ _ _ _ _ (m_w w (m_shd (m_fo_s μ t)))
                          refine q_aload_n dX12_shed_170 rfl ?_
                          refine q_cVv [] kX12_145_12 rfl (tX12_layWeights w (m_shd (m_fo_s μ t)) (Or.inr (m_shd_G hν hd hm)) (m_shd_D (m_fo_s μ t))) dX12_shed_171 rfl (by decide) (Nat.le_of_ble_eq_true rfl) rfl ?_
                          refine q_aload_n dX12_shed_174 rfl ?_
                          refine q_get (v := q_i ((m_fo_s μ t) 22 0)) fX12_142_12 rfl rfl dX12_shed_175 ?_
                          exact q_iret rfl dX12_shed_178 (⟨by (unfold m_shed_v; (repeat' split) <;> first | rfl | (exfalso; omega)), by (unfold m_shed_s; (repeat' split) <;> first | rfl | (exfalso; omega))⟩)
                        · skip
                          refine q_aload_n dX12_shed_152 rfl ?_
                          refine q_get (v := .ref 65) fX12_7_12 rfl rfl dX12_shed_153 ?_
                          refine q_bipush dX12_shed_156 ?_
                          refine q_iload_n dX12_shed_158 rfl ?_
                          refine q_imul dX12_shed_159 ?_
                          refine q_iconst dX12_shed_160 ?_
                          refine q_iadd dX12_shed_161 ?_
                          refine q_iconst dX12_shed_162 ?_
                          refine q_iast (f := (m_sh_r (m_fo_s μ t) k2)) (n9 := 152) rfl (by omega) (by omega) dX12_shed_163 ?_
                          rw [m_a0]
                          refine q_iinc (lv' := [some (.ref 64), some (q_i t), some (q_i (k2 + 1))]) dX12_shed_164 rfl (by decide) rfl ?_
                          refine q_goto (tgt := 147) dX12_shed_167 (by decide) ?_
                          exact q_Jle (q_le_s (rfl) (q_le_s (rfl) (q_le_s (rfl) (q_le_e _)))) (rfl) (by rw [m_sh5_0, Int.add_zero, m_sh_r_s _ hk20 (by omega)]) (ih147 (k2 + 1) (by omega) (by omega) (by omega))
                    exact q_Jle (q_le_s (rfl) (q_le_s (rfl) (q_le_s (rfl) (q_le_e _)))) (rfl) (by rw [m_sh_r_1, show p = (m_fo_s μ t) 22 0 by omega]) (L147 ((4 : Int).toNat + 1) 1 (by omega) (by omega) (by omega))
                  · skip
                    refine q_aload_n dX12_shed_107 rfl ?_
                    refine q_get (v := .ref 66) fX12_13_12 rfl rfl dX12_shed_108 ?_
                    refine q_iload_n dX12_shed_111 rfl ?_
                    refine q_aload_n dX12_shed_112 rfl ?_
                    refine q_get (v := .ref 73) fX12_39_12 rfl rfl dX12_shed_113 ?_
                    refine q_iconst dX12_shed_116 ?_
                    refine q_iload_n dX12_shed_117 rfl ?_
                    refine q_imul dX12_shed_118 ?_
                    refine q_iald (f := ((m_fo_s μ t) 21)) (n9 := 10) rfl (by omega) (by omega) dX12_shed_119 ?_
                    refine q_iast (f := (m_sh_k (m_fo_s μ t) p)) (n9 := 5) rfl (by omega) (by omega) dX12_shed_120 ?_
                    rw [m_a5]
                    refine q_aload_n dX12_shed_121 rfl ?_
                    refine q_get (v := .ref 65) fX12_7_12 rfl rfl dX12_shed_122 ?_
                    refine q_iconst dX12_shed_125 ?_
                    refine q_iload_n dX12_shed_126 rfl ?_
                    refine q_iadd dX12_shed_127 ?_
                    refine q_aload_n dX12_shed_128 rfl ?_
                    refine q_get (v := .ref 73) fX12_39_12 rfl rfl dX12_shed_129 ?_
                    refine q_iconst dX12_shed_132 ?_
                    refine q_iload_n dX12_shed_133 rfl ?_
                    refine q_imul dX12_shed_134 ?_
                    refine q_iconst dX12_shed_135 ?_
                    refine q_iadd dX12_shed_136 ?_
                    refine q_iald (f := ((m_fo_s μ t) 21)) (n9 := 10) rfl (by omega) (by omega) dX12_shed_137 ?_
                    refine q_iast (f := (m_sh_f (m_fo_s μ t) p)) (n9 := 152) rfl (by omega) (by omega) dX12_shed_138 ?_
                    rw [m_a0]
                    refine q_iinc (lv' := [some (.ref 64), some (q_i t), some (q_i (p + 1))]) dX12_shed_139 rfl (by decide) rfl ?_
                    refine q_goto (tgt := 99) dX12_shed_142 (by decide) ?_
                    exact q_Jle (q_le_s (rfl) (q_le_s (rfl) (q_le_s (rfl) (q_le_e _)))) (rfl) (by rw [m_sh5_5, m_sh5_0, m_sh_k_s _ hp0, m_sh_f_s _ hp0]) (ih99 (p + 1) (by omega) (by omega) (by omega))
              exact q_Jle (q_le_s (rfl) (q_le_s (rfl) (q_le_s (rfl) (q_le_e _)))) (rfl) (by rw [m_sh_k_0, m_sh_f_0, show k = 38 by omega]) (L99 (((m_fo_s μ t) 22 0 : Int).toNat + 1) 0 (by omega) (by omega) (by omega))
            · skip
              refine q_aload_n dX12_shed_84 rfl ?_
              refine q_get (v := .ref 65) fX12_7_12 rfl rfl dX12_shed_85 ?_
              refine q_iload_n dX12_shed_88 rfl ?_
              refine q_iconst dX12_shed_89 ?_
              refine q_iast (f := (q_fl ((m_fo_s μ t) 0) 0 k 0)) (n9 := 152) rfl (by omega) (by omega) dX12_shed_90 ?_
              rw [m_a0]
              refine q_iinc (lv' := [some (.ref 64), some (q_i t), some (q_i (k + 1))]) dX12_shed_91 rfl (by decide) rfl ?_
              refine q_goto (tgt := 78) dX12_shed_94 (by decide) ?_
              exact q_Jle (q_le_s (rfl) (q_le_s (rfl) (q_le_s (rfl) (q_le_e _)))) (rfl) (by rw [m_sh5_0, ← q_fl_s _ _ _ hk0, Int.zero_add]) (ih78 (k + 1) (by omega) (by omega) (by omega))
        exact q_Jle (q_le_s (rfl) (q_le_s (rfl) (q_le_s (rfl) (q_le_e _)))) (rfl) (by rw [q_fl_0]) (L78 ((38 : Int).toNat + 1) 0 (by omega) (by omega) (by omega))
      · skip
        refine q_bipush dX12_shed_34 ?_
        exact q_iret rfl dX12_shed_36 (⟨by (unfold m_shed_v; (repeat' split) <;> first | rfl | (exfalso; omega)), by (unfold m_shed_s; (repeat' split) <;> first | rfl | (exfalso; omega))⟩)
    · skip
      refine q_aload_n dX12_shed_18 rfl ?_
      refine q_iconst dX12_shed_19 ?_
      refine q_cV [q_i 1] kX12_67_12 rfl (tX12_find w μ 1 (by decide) (by decide)) dX12_shed_20 rfl (by decide) (Nat.le_of_ble_eq_true rfl) rfl ?_
      exact q_iret rfl dX12_shed_23 (⟨by (unfold m_shed_v; (repeat' split) <;> first | rfl | (exfalso; omega)), by (unfold m_shed_s; (repeat' split) <;> first | rfl | (exfalso; omega))⟩)
  · skip
    refine q_iconst dX12_shed_7 ?_
    exact q_iret rfl dX12_shed_8 (⟨by (unfold m_shed_v; (repeat' split) <;> first | rfl | (exfalso; omega)), by (unfold m_shed_s; (repeat' split) <;> first | rfl | (exfalso; omega))⟩)
