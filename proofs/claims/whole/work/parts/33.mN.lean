/-! the reference: a text read -/
def m_b (μ : m_S) (j : Int) : Int := μ 10 (μ 16 0 + j)
/-- a text is being read: where it lies, how far one is -/
def m_R (μ : m_S) : Prop := (0 ≤ μ 16 0 ∧ μ 16 0 ≤ 180) ∧ (0 ≤ μ 17 0 ∧ μ 17 0 ≤ μ 18 0) ∧ μ 18 0 ≤ 60 ∧ (0 ≤ μ 22 0 ∧ μ 22 0 ≤ 5) ∧ (∀ j, -128 ≤ μ 10 j ∧ μ 10 j ≤ 127)
theorem m_w_n (k0 : Nat) (hk : k0 = 11 ∨ k0 = 17) (w : q_W) (μ : m_S) : m_w w μ = m_w w (m_u μ k0 (fun _ => μ k0 0)) := by
  rcases hk with rfl | rfl
  · exact m_w11 w μ
  · unfold m_w m_o
    rfl
theorem m_w17 (w : q_W) (μ : m_S) : m_w w μ = m_w w (m_u μ 17 (fun _ => μ 17 0)) := m_w_n 17 (Or.inr rfl) w μ
def z_sp (b : Int → Int) (L : Int) : Nat → Int → Int
  | 0, p => p
  | k + 1, p => if p < L ∧ b p = 32 then z_sp b L k (p + 1) else p
def z_skp (b : Int → Int) (L p : Int) : Int := z_sp b L (L - p).toNat p
theorem z_skp_go {b : Int → Int} {L p : Int} (h : p < L) (h2 : b p = 32) : z_skp b L p = z_skp b L (p + 1) := by
  unfold z_skp
  rw [show (L - p).toNat = (L - (p + 1)).toNat + 1 by omega]
  show (if p < L ∧ b p = 32 then z_sp b L _ (p + 1) else p) = _
  rw [if_pos ⟨h, h2⟩]
theorem z_skp_no {b : Int → Int} {L p : Int} (h : ¬ (p < L ∧ b p = 32)) : z_skp b L p = p := by
  unfold z_skp
  cases (L - p).toNat with
  | zero => rfl
  | succ k =>
    show (if p < L ∧ b p = 32 then z_sp b L k (p + 1) else p) = p
    rw [if_neg h]
theorem z_sp_r (b : Int → Int) (L : Int) : ∀ (k : Nat) (p : Int), p ≤ z_sp b L k p ∧ (z_sp b L k p ≤ L ∨ z_sp b L k p = p)
  | 0, p => ⟨Int.le_refl _, Or.inr rfl⟩
  | k + 1, p => by
    have h := z_sp_r b L k (p + 1)
    show p ≤ (if p < L ∧ b p = 32 then z_sp b L k (p + 1) else p) ∧ ((if p < L ∧ b p = 32 then z_sp b L k (p + 1) else p) ≤ L ∨ (if p < L ∧ b p = 32 then z_sp b L k (p + 1) else p) = p)
    split <;> omega
theorem z_skp_r (b : Int → Int) {L p : Int} (h : p ≤ L) : p ≤ z_skp b L p ∧ z_skp b L p ≤ L := by
  have h1 := z_sp_r b L (L - p).toNat p
  unfold z_skp
  omega
theorem m_b_r {μ : m_S} (h : m_R μ) (j : Int) : q_r (m_b μ j) := by
  have := h.2.2.2.2 (μ 16 0 + j)
  unfold m_b
  constructor <;> omega
def m_sk (μ : m_S) : m_S := m_u μ 17 (fun _ => z_skp (m_b μ) (μ 18 0) (μ 17 0))
theorem m_sk_R {μ : m_S} (h : m_R μ) : m_R (m_sk μ) := by
  have h1 := z_skp_r (m_b μ) h.2.1.2
  exact ⟨h.1, ⟨by have := h.2.1; show 0 ≤ z_skp _ _ _; omega, h1.2⟩, h.2.2⟩
set_option maxRecDepth 20000 in
theorem tX12_here (w : q_W) (μ : m_S) (hR : m_R μ) (hlt : μ 17 0 < 60) : q_D mX12_here 0 [.ref 64] (m_w w μ) (some (q_i (m_b μ (μ 17 0)))) (m_w w μ) := by
  refine q_T.of (lv := [some (.ref 64)]) (by decide) rfl (Nat.le_of_ble_eq_true rfl) ?_
  have hR1 := hR.1
  have hR2 := hR.2.1
  have hR3 := hR.2.2.1
  have hR4 := hR.2.2.2.1
  refine q_aload_n dX12_here_0 rfl ?_
  refine q_get (v := .ref 71) fX12_29_12 rfl rfl dX12_here_1 ?_
  refine q_aload_n dX12_here_4 rfl ?_
  refine q_get (v := q_i (μ 16 0)) fX12_89_12 rfl rfl dX12_here_5 ?_
  refine q_aload_n dX12_here_8 rfl ?_
  refine q_get (v := q_i (μ 17 0)) fX12_92_12 rfl rfl dX12_here_9 ?_
  refine q_iadd dX12_here_12 ?_
  refine q_iald (f := (μ 10)) (n9 := 240) rfl (by omega) (by omega) dX12_here_13 ?_
  exact q_iret rfl dX12_here_14 (⟨rfl, rfl⟩)
set_option maxRecDepth 20000 in
theorem tX12_skip (w : q_W) (μ : m_S) (hR : m_R μ) : q_D mX12_skip 1 [.ref 64] (m_w w μ) none (m_w w (m_sk μ)) := by
  refine q_T.of (lv := [some (.ref 64)]) (by decide) rfl (Nat.le_of_ble_eq_true rfl) ?_
  have hR1 := hR.1
  have hR2 := hR.2.1
  have hR3 := hR.2.2.1
  have hR4 := hR.2.2.2.1
  have L0 : ∀ (m9 : Nat) (p : Int) (hp0 : 0 ≤ p) (hp1 : p ≤ μ 18 0) (hp2 : z_skp (m_b μ) (μ 18 0) p = z_skp (m_b μ) (μ 18 0) (μ 17 0)) (hm9 : μ 18 0 - p < (m9 : Int)), q_J mX12_skip 1 (fun v' w' => v' = none ∧ w' = (m_w w (m_sk μ))) 0 0 0 [some (.ref 64)] [] (m_w w (m_u μ 17 (fun _ => p))) := by
    intro m9
    induction m9 with
    | zero => intro p hp0 hp1 hp2 hm9; exact absurd hm9 (by omega)
    | succ m9 ih0 =>
      intro p hp0 hp1 hp2 hm9
      refine q_aload_n dX12_skip_0 rfl ?_
      refine q_get (v := q_i p) fX12_92_12 rfl rfl dX12_skip_1 ?_
      refine q_aload_n dX12_skip_4 rfl ?_
      refine q_get (v := q_i (μ 18 0)) fX12_95_12 rfl rfl dX12_skip_5 ?_
      refine q_icmp_ge (tgt := 33) dX12_skip_8 (by decide) ⟨by omega, by omega⟩ ⟨by omega, by omega⟩ (fun h8 => ?_) (fun h8 => ?_)
      · skip
        exact q_vret rfl dX12_skip_33 (⟨rfl, by unfold m_sk; rw [← hp2, z_skp_no (by omega)]⟩)
      · skip
        refine q_aload_n dX12_skip_11 rfl ?_
        refine q_cV [] kX12_98_12 rfl (tX12_here w (m_u μ 17 (fun _ => p)) ⟨hR1, ⟨hp0, hp1⟩, hR.2.2⟩ (show p < 60 by omega)) dX12_skip_12 rfl (by decide) (Nat.le_of_ble_eq_true rfl) rfl ?_
        show q_J _ _ _ _ _ _ _ [q_i (m_b μ p)] (m_w w (m_u μ 17 (fun _ => p)))
        refine q_bipush dX12_skip_15 ?_
        refine q_icmp_ne (tgt := 33) dX12_skip_17 (by decide) ⟨by have := hR.2.2.2.2 (μ 16 0 + p); unfold m_b; omega, by have := hR.2.2.2.2 (μ 16 0 + p); unfold m_b; omega⟩ ⟨by decide, by decide⟩ (fun h17 => ?_) (fun h17 => ?_)
        · skip
          exact q_vret rfl dX12_skip_33 (⟨rfl, by unfold m_sk; rw [← hp2, z_skp_no (by omega)]⟩)
        · skip
          refine q_aload_n dX12_skip_20 rfl ?_
          refine q_dup dX12_skip_21 rfl ?_
          refine q_get (v := q_i p) fX12_92_12 rfl rfl dX12_skip_22 ?_
          refine q_iconst dX12_skip_25 ?_
          refine q_iadd dX12_skip_26 ?_
          refine q_puti (fs := m_o (m_u μ 17 (fun _ => p))) pX12_92_12 rfl (Nat.le_of_ble_eq_true rfl) dX12_skip_27 ?_
          rw [m_p17]
          refine q_goto (tgt := 0) dX12_skip_30 (by decide) ?_
          exact q_Jle (q_le_s (rfl) (q_le_e _)) (rfl) (by rw [m_uu]) (ih0 (p + 1) (by omega) (by omega) ((z_skp_go (by omega) (by omega)).symm.trans hp2) (by omega))
  exact q_Jle (q_le_s (rfl) (q_le_e _)) (rfl) (m_w17 w μ) (L0 ((μ 18 0 - μ 17 0 : Int).toNat + 1) (μ 17 0) (by omega) (by omega) (rfl) (by omega))
def m_fg_v (μ : m_S) (lo hi : Int) : Int := if μ 17 0 = μ 18 0 ∨ ¬ (48 + lo ≤ m_b μ (μ 17 0) ∧ m_b μ (μ 17 0) ≤ 48 + hi) then -9 else m_b μ (μ 17 0) - 48
def m_fg_s (μ : m_S) (lo hi : Int) : m_S := if μ 17 0 = μ 18 0 ∨ ¬ (48 + lo ≤ m_b μ (μ 17 0) ∧ m_b μ (μ 17 0) ≤ 48 + hi) then μ else m_u μ 17 (fun _ => μ 17 0 + 1)
theorem m_fg_R {μ : m_S} (h : m_R μ) (lo hi : Int) : m_R (m_fg_s μ lo hi) := by
  unfold m_fg_s
  split
  · exact h
  · rename_i hc
    have h2 := h.2.1
    exact ⟨h.1, ⟨by show 0 ≤ μ 17 0 + 1; omega, by show μ 17 0 + 1 ≤ μ 18 0; omega⟩, h.2.2⟩
theorem m_fg_r {μ : m_S} (h : m_R μ) (lo hi : Int) : -200 ≤ m_fg_v μ lo hi ∧ m_fg_v μ lo hi ≤ 200 := by
  have h1 := h.2.2.2.2 (μ 16 0 + μ 17 0)
  unfold m_fg_v m_b
  split <;> omega
set_option maxRecDepth 20000 in
theorem tX12_figure (w : q_W) (μ : m_S) (a b : Int) (ha : 0 ≤ a ∧ a ≤ 9) (hb : 0 ≤ b ∧ b ≤ 9) (hR : m_R μ) : q_D mX12_figure 1 [.ref 64, q_i a, q_i b] (m_w w μ) (some (q_i (m_fg_v μ a b))) (m_w w (m_fg_s μ a b)) := by
  refine q_T.of (lv := [some (.ref 64), some (q_i a), some (q_i b)]) (by decide) rfl (Nat.le_of_ble_eq_true rfl) ?_
  have hR1 := hR.1
  have hR2 := hR.2.1
  have hR3 := hR.2.2.1
  have hR4 := hR.2.2.2.1
  refine q_aload_n dX12_figure_0 rfl ?_
  refine q_get (v := q_i (μ 17 0)) fX12_92_12 rfl rfl dX12_figure_1 ?_
  refine q_aload_n dX12_figure_4 rfl ?_
  refine q_get (v := q_i (μ 18 0)) fX12_95_12 rfl rfl dX12_figure_5 ?_
  refine q_icmp_eq (tgt := 32) dX12_figure_8 (by decide) ⟨by omega, by omega⟩ ⟨by omega, by omega⟩ (fun h8 => ?_) (fun h8 => ?_)
  · skip
    refine q_bipush dX12_figure_32 ?_
    exact q_iret rfl dX12_figure_34 (⟨by (unfold m_fg_v; (repeat' split) <;> first | rfl | (exfalso; omega)), by (unfold m_fg_s; (repeat' split) <;> first | rfl | (exfalso; omega))⟩)
  · skip
    refine q_aload_n dX12_figure_11 rfl ?_
    refine q_cV [] kX12_98_12 rfl (tX12_here w μ hR (by omega)) dX12_figure_12 rfl (by decide) (Nat.le_of_ble_eq_true rfl) rfl ?_
    show q_J _ _ _ _ _ _ _ [q_i (m_b μ (μ 17 0))] (m_w w μ)
    refine q_i2lr dX12_figure_15 (m_b_r hR (μ 17 0)) ?_
    refine q_bipush dX12_figure_16 ?_
    refine q_iload_n dX12_figure_18 rfl ?_
    refine q_iadd dX12_figure_19 ?_
    refine q_i2lr dX12_figure_20 ⟨by omega, by omega⟩ ?_
    refine q_bipush dX12_figure_21 ?_
    refine q_iload_n dX12_figure_23 rfl ?_
    refine q_iadd dX12_figure_24 ?_
    refine q_i2lr dX12_figure_25 ⟨by omega, by omega⟩ ?_
    refine q_cS [q_l (m_b μ (μ 17 0)), q_l (48 + a), q_l (48 + b)] kX12_57 (tX12_in (m_b μ (μ 17 0)) (48 + a) (48 + b) (⟨by have := ((m_b_r hR (μ 17 0))).1; omega, by have := ((m_b_r hR (μ 17 0))).2; omega⟩) (⟨by omega, by omega⟩) (⟨by omega, by omega⟩) (m_w w μ)) dX12_figure_26 rfl (by decide) (Nat.le_of_ble_eq_true rfl) rfl ?_
    refine q_ifb_ne (tgt := 35) dX12_figure_29 (by decide) (fun h29 => ?_) (fun h29 => ?_)
    · skip
      refine q_aload_n dX12_figure_35 rfl ?_
      refine q_dup dX12_figure_36 rfl ?_
      refine q_get (v := q_i (μ 17 0)) fX12_92_12 rfl rfl dX12_figure_37 ?_
      refine q_iconst dX12_figure_40 ?_
      refine q_iadd dX12_figure_41 ?_
      refine q_puti (fs := m_o μ) pX12_92_12 rfl (Nat.le_of_ble_eq_true rfl) dX12_figure_42 ?_
      rw [m_p17]
      refine q_aload_n dX12_figure_45 rfl ?_
      refine q_get (v := .ref 71) fX12_29_12 rfl rfl dX12_figure_46 ?_
      refine q_aload_n dX12_figure_49 rfl ?_
      refine q_get (v := q_i (μ 16 0)) fX12_89_12 rfl rfl dX12_figure_50 ?_
      refine q_aload_n dX12_figure_53 rfl ?_
      refine q_get (v := q_i ((μ 17 0) + 1)) fX12_92_12 rfl rfl dX12_figure_54 ?_
      refine q_iadd dX12_figure_57 ?_
      refine q_iconst dX12_figure_58 ?_
      refine q_isub dX12_figure_59 ?_
      refine q_iald (f := (μ 10)) (n9 := 240) rfl (by omega) (by omega) dX12_figure_60 ?_
      rw [show (μ 16 0) + ((μ 17 0) + 1) - 1 = μ 16 0 + μ 17 0 by omega]
      show q_J _ _ _ _ _ _ _ [q_i (m_b μ (μ 17 0))] _
      refine q_bipush dX12_figure_61 ?_
      refine q_isub dX12_figure_63 ?_
      exact q_iret rfl dX12_figure_64 (⟨by (unfold m_fg_v; (repeat' split) <;> first | rfl | (exfalso; omega)), by (unfold m_fg_s; (repeat' split) <;> first | rfl | (exfalso; omega))⟩)
    · skip
      refine q_bipush dX12_figure_32 ?_
      exact q_iret rfl dX12_figure_34 (⟨by (unfold m_fg_v; (repeat' split) <;> first | rfl | (exfalso; omega)), by (unfold m_fg_s; (repeat' split) <;> first | rfl | (exfalso; omega))⟩)
def m_q2 (μ : m_S) : m_S := m_u (m_sk μ) 17 (fun _ => (m_sk μ) 17 0 + 1)
def m_q3 (μ : m_S) : m_S := m_u (m_fg_s (m_q2 μ) 1 3) 19 (fun _ => m_fg_v (m_q2 μ) 1 3)
def m_q4 (μ : m_S) : m_S := m_u (m_fg_s (m_q3 μ) 4 6) 20 (fun _ => m_fg_v (m_q3 μ) 4 6)
def m_rl_v (μ : m_S) : Int := if (m_sk μ) 17 0 = (m_sk μ) 18 0 then 0 else if m_b (m_sk μ) ((m_sk μ) 17 0) ≠ 119 then 0 else if m_fg_v (m_q2 μ) 1 3 = -9 then 0 else if m_fg_v (m_q3 μ) 4 6 = -9 then 0 else 1
def m_rl_s (μ : m_S) : m_S := if (m_sk μ) 17 0 = (m_sk μ) 18 0 then m_sk μ else if m_b (m_sk μ) ((m_sk μ) 17 0) ≠ 119 then m_sk μ else if m_fg_v (m_q2 μ) 1 3 = -9 then m_u (m_q3 μ) 20 (fun _ => -9) else m_q4 μ
theorem m_q2_R {μ : m_S} (h : m_R μ) (h2 : (m_sk μ) 17 0 ≠ (m_sk μ) 18 0) : m_R (m_q2 μ) := by
  have h1 := m_sk_R h
  have h3 := h1.2.1
  exact ⟨h1.1, ⟨by show 0 ≤ (m_sk μ) 17 0 + 1; omega, by show (m_sk μ) 17 0 + 1 ≤ (m_sk μ) 18 0; omega⟩, h1.2.2⟩
theorem m_u_R {μ : m_S} (h : m_R μ) {k : Nat} (f : Int → Int) (hk : k = 19 ∨ k = 20) : m_R (m_u μ k f) := by
  rcases hk with rfl | rfl
  · exact h
  · exact h
theorem m_q3_R {μ : m_S} (h : m_R (m_q2 μ)) : m_R (m_q3 μ) := m_u_R (m_fg_R h 1 3) _ (Or.inl rfl)
theorem m_q4_R {μ : m_S} (h : m_R (m_q3 μ)) : m_R (m_q4 μ) := m_u_R (m_fg_R h 4 6) _ (Or.inr rfl)
set_option maxRecDepth 20000 in
theorem tX12_readsLock (w : q_W) (μ : m_S) (hR : m_R μ) : q_D mX12_readsLock 2 [.ref 64] (m_w w μ) (some (q_i (m_rl_v μ))) (m_w w (m_rl_s μ)) := by
  refine q_T.of (lv := [some (.ref 64)]) (by decide) rfl (Nat.le_of_ble_eq_true rfl) ?_
  have hR1 := hR.1
  have hR2 := hR.2.1
  have hR3 := hR.2.2.1
  have hR4 := hR.2.2.2.1
  refine q_aload_n dX12_readsLock_0 rfl ?_
  refine q_cVv [] kX12_102_12 rfl (tX12_skip w μ hR) dX12_readsLock_1 rfl (by decide) (Nat.le_of_ble_eq_true rfl) rfl ?_
  have hK := m_sk_R hR
  have hK2 := hK.2.1
  have hK3 := hK.2.2.1
  show q_J _ _ _ _ _ _ _ _ (m_w w (m_sk μ))
  refine q_aload_n dX12_readsLock_4 rfl ?_
  refine q_get (v := q_i ((m_sk μ) 17 0)) fX12_92_12 rfl rfl dX12_readsLock_5 ?_
  refine q_aload_n dX12_readsLock_8 rfl ?_
  refine q_get (v := q_i ((m_sk μ) 18 0)) fX12_95_12 rfl rfl dX12_readsLock_9 ?_
  refine q_icmp_eq (tgt := 24) dX12_readsLock_12 (by decide) ⟨by omega, by omega⟩ ⟨by omega, by omega⟩ (fun h12 => ?_) (fun h12 => ?_)
  · skip
    refine q_iconst dX12_readsLock_24 ?_
    exact q_zret rfl (Or.inl rfl) dX12_readsLock_25 (⟨by (unfold m_rl_v; (repeat' split) <;> first | rfl | (exfalso; omega)), by (unfold m_rl_s; (repeat' split) <;> first | rfl | (exfalso; omega))⟩)
  · skip
    refine q_aload_n dX12_readsLock_15 rfl ?_
    refine q_cV [] kX12_98_12 rfl (tX12_here w (m_sk μ) hK (show (m_sk μ) 17 0 < 60 by omega)) dX12_readsLock_16 rfl (by decide) (Nat.le_of_ble_eq_true rfl) rfl ?_
    show q_J _ _ _ _ _ _ _ [q_i (m_b (m_sk μ) ((m_sk μ) 17 0))] (m_w w (m_sk μ))
    refine q_bipush dX12_readsLock_19 ?_
    refine q_icmp_eq (tgt := 26) dX12_readsLock_21 (by decide) (m_b_r hK ((m_sk μ) 17 0)) ⟨by decide, by decide⟩ (fun h21 => ?_) (fun h21 => ?_)
    · skip
      refine q_aload_n dX12_readsLock_26 rfl ?_
      refine q_dup dX12_readsLock_27 rfl ?_
      refine q_get (v := q_i ((m_sk μ) 17 0)) fX12_92_12 rfl rfl dX12_readsLock_28 ?_
      refine q_iconst dX12_readsLock_31 ?_
      refine q_iadd dX12_readsLock_32 ?_
      refine q_puti (fs := m_o (m_sk μ)) pX12_92_12 rfl (Nat.le_of_ble_eq_true rfl) dX12_readsLock_33 ?_
      rw [m_p17]
      have hQ2 := m_q2_R hR h12
      show q_J _ _ _ _ _ _ _ _ (m_w w (m_q2 μ))
      refine q_aload_n dX12_readsLock_36 rfl ?_
      refine q_aload_n dX12_readsLock_37 rfl ?_
      refine q_iconst dX12_readsLock_38 ?_
      refine q_iconst dX12_readsLock_39 ?_
      refine q_cV [q_i 1, q_i 3] kX12_105_12 rfl (tX12_figure w (m_q2 μ) 1 3 (by decide) (by decide) hQ2) dX12_readsLock_40 rfl (by decide) (Nat.le_of_ble_eq_true rfl) rfl ?_
      refine q_puti (fs := m_o (m_fg_s (m_q2 μ) 1 3)) pX12_108_12 rfl (Nat.le_of_ble_eq_true rfl) dX12_readsLock_43 ?_
      rw [m_p19]
      have hQ3 := m_q3_R hQ2
      show q_J _ _ _ _ _ _ _ _ (m_w w (m_q3 μ))
      refine q_aload_n dX12_readsLock_46 rfl ?_
      refine q_aload_n dX12_readsLock_47 rfl ?_
      refine q_get (v := q_i (m_fg_v (m_q2 μ) 1 3)) fX12_108_12 rfl rfl dX12_readsLock_48 ?_
      refine q_bipush dX12_readsLock_51 ?_
      refine q_icmp_ne (tgt := 61) dX12_readsLock_53 (by decide) ⟨by have := m_fg_r hQ2 1 3; omega, by have := m_fg_r hQ2 1 3; omega⟩ ⟨by decide, by decide⟩ (fun h53 => ?_) (fun h53 => ?_)
      · skip
        refine q_aload_n dX12_readsLock_61 rfl ?_
        refine q_iconst dX12_readsLock_62 ?_
        refine q_bipush dX12_readsLock_63 ?_
        refine q_cV [q_i 4, q_i 6] kX12_105_12 rfl (tX12_figure w (m_q3 μ) 4 6 (by decide) (by decide) hQ3) dX12_readsLock_65 rfl (by decide) (Nat.le_of_ble_eq_true rfl) rfl ?_
        refine q_puti (fs := m_o (m_fg_s (m_q3 μ) 4 6)) pX12_111_12 rfl (Nat.le_of_ble_eq_true rfl) dX12_readsLock_68 ?_
        rw [m_p20]
        refine q_aload_n dX12_readsLock_71 rfl ?_
        refine q_get (v := q_i (m_fg_v (m_q3 μ) 4 6)) fX12_111_12 rfl rfl dX12_readsLock_72 ?_
        refine q_bipush dX12_readsLock_75 ?_
        refine q_icmp_eq (tgt := 84) dX12_readsLock_77 (by decide) ⟨by have := m_fg_r hQ3 4 6; omega, by have := m_fg_r hQ3 4 6; omega⟩ ⟨by decide, by decide⟩ (fun h77 => ?_) (fun h77 => ?_)
        · skip
          refine q_iconst dX12_readsLock_84 ?_
          exact q_zret rfl (Or.inl rfl) dX12_readsLock_85 (⟨by (unfold m_rl_v; (repeat' split) <;> first | rfl | (exfalso; omega)), by (unfold m_rl_s; (repeat' split) <;> first | rfl | (exfalso; omega))⟩)
        · skip
          refine q_iconst dX12_readsLock_80 ?_
          refine q_goto (tgt := 85) dX12_readsLock_81 (by decide) ?_
          exact q_zret rfl (Or.inr rfl) dX12_readsLock_85 (⟨by (unfold m_rl_v; (repeat' split) <;> first | rfl | (exfalso; omega)), by (unfold m_rl_s; (repeat' split) <;> first | rfl | (exfalso; omega))⟩)
      · skip
        refine q_bipush dX12_readsLock_56 ?_
        refine q_goto (tgt := 68) dX12_readsLock_58 (by decide) ?_
        refine q_puti (fs := m_o (m_q3 μ)) pX12_111_12 rfl (Nat.le_of_ble_eq_true rfl) dX12_readsLock_68 ?_
        rw [m_p20]
        refine q_aload_n dX12_readsLock_71 rfl ?_
        refine q_get (v := q_i (-9)) fX12_111_12 rfl rfl dX12_readsLock_72 ?_
        refine q_bipush dX12_readsLock_75 ?_
        refine q_icmp_eq (tgt := 84) dX12_readsLock_77 (by decide) ⟨by decide, by decide⟩ ⟨by decide, by decide⟩ (fun h77 => ?_) (fun h77 => False.elim (by omega))
        refine q_iconst dX12_readsLock_84 ?_
        exact q_zret rfl (Or.inl rfl) dX12_readsLock_85 (⟨by (unfold m_rl_v; (repeat' split) <;> first | rfl | (exfalso; omega)), by (unfold m_rl_s; (repeat' split) <;> first | rfl | (exfalso; omega))⟩)
    · skip
      refine q_iconst dX12_readsLock_24 ?_
      exact q_zret rfl (Or.inl rfl) dX12_readsLock_25 (⟨by (unfold m_rl_v; (repeat' split) <;> first | rfl | (exfalso; omega)), by (unfold m_rl_s; (repeat' split) <;> first | rfl | (exfalso; omega))⟩)
def z_kd (c : Int) : Int := if c = 112 then 0 else if c = 101 then 1 else if c = 97 then 2 else if c = 98 then 3 else if c = 111 then 4 else if c = 108 then 5 else -9
theorem z_kd_r (c : Int) : -9 ≤ z_kd c ∧ z_kd c ≤ 5 := by
  unfold z_kd
  (repeat' split) <;> omega
theorem z_kd_0 {c : Int} (h : z_kd c ≠ -9) : 0 ≤ z_kd c := by
  unfold z_kd at *
  (repeat' split) <;> first | decide | (exfalso; simp_all)
set_option maxRecDepth 20000 in
theorem tX12_kindOfLetter (w : q_W) (c : Int) (hc : q_r c) : q_D mX12_kindOfLetter 0 [q_i c] w (some (q_i (z_kd c))) w := by
  refine q_T.of (lv := [some (q_i c)]) (by decide) rfl (Nat.le_of_ble_eq_true rfl) ?_
  refine q_iload_n dX12_kindOfLetter_0 rfl ?_
  refine q_bipush dX12_kindOfLetter_1 ?_
  refine q_icmp_ne (tgt := 10) dX12_kindOfLetter_3 (by decide) hc ⟨by decide, by decide⟩ (fun h3 => ?_) (fun h3 => ?_)
  · skip
    refine q_iload_n dX12_kindOfLetter_10 rfl ?_
    refine q_bipush dX12_kindOfLetter_11 ?_
    refine q_icmp_ne (tgt := 20) dX12_kindOfLetter_13 (by decide) hc ⟨by decide, by decide⟩ (fun h13 => ?_) (fun h13 => ?_)
    · skip
      refine q_iload_n dX12_kindOfLetter_20 rfl ?_
      refine q_bipush dX12_kindOfLetter_21 ?_
      refine q_icmp_ne (tgt := 30) dX12_kindOfLetter_23 (by decide) hc ⟨by decide, by decide⟩ (fun h23 => ?_) (fun h23 => ?_)
      · skip
        refine q_iload_n dX12_kindOfLetter_30 rfl ?_
        refine q_bipush dX12_kindOfLetter_31 ?_
        refine q_icmp_ne (tgt := 40) dX12_kindOfLetter_33 (by decide) hc ⟨by decide, by decide⟩ (fun h33 => ?_) (fun h33 => ?_)
        · skip
          refine q_iload_n dX12_kindOfLetter_40 rfl ?_
          refine q_bipush dX12_kindOfLetter_41 ?_
          refine q_icmp_ne (tgt := 50) dX12_kindOfLetter_43 (by decide) hc ⟨by decide, by decide⟩ (fun h43 => ?_) (fun h43 => ?_)
          · skip
            refine q_iload_n dX12_kindOfLetter_50 rfl ?_
            refine q_bipush dX12_kindOfLetter_51 ?_
            refine q_icmp_ne (tgt := 60) dX12_kindOfLetter_53 (by decide) hc ⟨by decide, by decide⟩ (fun h53 => ?_) (fun h53 => ?_)
            · skip
              refine q_bipush dX12_kindOfLetter_60 ?_
              exact q_iret rfl dX12_kindOfLetter_62 (⟨by (unfold z_kd; (repeat' split) <;> first | rfl | (exfalso; omega)), rfl⟩)
            · skip
              refine q_iconst dX12_kindOfLetter_56 ?_
              refine q_goto (tgt := 62) dX12_kindOfLetter_57 (by decide) ?_
              exact q_iret rfl dX12_kindOfLetter_62 (⟨by (unfold z_kd; (repeat' split) <;> first | rfl | (exfalso; omega)), rfl⟩)
          · skip
            refine q_iconst dX12_kindOfLetter_46 ?_
            refine q_goto (tgt := 62) dX12_kindOfLetter_47 (by decide) ?_
            exact q_iret rfl dX12_kindOfLetter_62 (⟨by (unfold z_kd; (repeat' split) <;> first | rfl | (exfalso; omega)), rfl⟩)
        · skip
          refine q_iconst dX12_kindOfLetter_36 ?_
          refine q_goto (tgt := 62) dX12_kindOfLetter_37 (by decide) ?_
          exact q_iret rfl dX12_kindOfLetter_62 (⟨by (unfold z_kd; (repeat' split) <;> first | rfl | (exfalso; omega)), rfl⟩)
      · skip
        refine q_iconst dX12_kindOfLetter_26 ?_
        refine q_goto (tgt := 62) dX12_kindOfLetter_27 (by decide) ?_
        exact q_iret rfl dX12_kindOfLetter_62 (⟨by (unfold z_kd; (repeat' split) <;> first | rfl | (exfalso; omega)), rfl⟩)
    · skip
      refine q_iconst dX12_kindOfLetter_16 ?_
      refine q_goto (tgt := 62) dX12_kindOfLetter_17 (by decide) ?_
      exact q_iret rfl dX12_kindOfLetter_62 (⟨by (unfold z_kd; (repeat' split) <;> first | rfl | (exfalso; omega)), rfl⟩)
  · skip
    refine q_iconst dX12_kindOfLetter_6 ?_
    refine q_goto (tgt := 62) dX12_kindOfLetter_7 (by decide) ?_
    exact q_iret rfl dX12_kindOfLetter_62 (⟨by (unfold z_kd; (repeat' split) <;> first | rfl | (exfalso; omega)), rfl⟩)
def m_k0 (μ : m_S) : Int := z_kd (m_b μ (μ 17 0))
def m_y1 (μ : m_S) : m_S := m_u μ 17 (fun _ => μ 17 0 + 1)
def m_f0 (μ : m_S) : Int := m_fg_v (m_y1 μ) 1 3
def m_y2 (μ : m_S) : m_S := m_fg_s (m_y1 μ) 1 3
def m_rpa (μ : m_S) : Int → Int := q_us (q_us (μ 21) (2 * μ 22 0) (m_k0 μ)) (2 * μ 22 0 + 1) (m_f0 μ)
def m_y3 (μ : m_S) : m_S := m_u (m_u (m_y2 μ) 21 (m_rpa μ)) 22 (fun _ => μ 22 0 + 1)
def m_rp_v (μ : m_S) : Int := if m_k0 μ = -9 then 0 else if μ 22 0 = 5 then 0 else if m_f0 μ = -9 then 0 else 1
def m_rp_s (μ : m_S) : m_S := if m_k0 μ = -9 then μ else if μ 22 0 = 5 then μ else if m_f0 μ = -9 then m_y2 μ else m_y3 μ
theorem m_y1_R {μ : m_S} (h : m_R μ) (h2 : μ 17 0 < μ 18 0) : m_R (m_y1 μ) := by
  have h3 := h.2.1
  exact ⟨h.1, ⟨by show 0 ≤ μ 17 0 + 1; omega, by show μ 17 0 + 1 ≤ μ 18 0; omega⟩, h.2.2⟩
theorem m_fg_k (μ : m_S) (lo hi : Int) {k : Nat} (hk : k ≠ 17) : m_fg_s μ lo hi k = μ k := by
  unfold m_fg_s
  split
  · rfl
  · exact m_un hk
set_option maxRecDepth 20000 in
theorem tX12_readsPerson (w : q_W) (μ : m_S) (hR : m_R μ) (hlt : μ 17 0 < μ 18 0) : q_D mX12_readsPerson 2 [.ref 64] (m_w w μ) (some (q_i (m_rp_v μ))) (m_w w (m_rp_s μ)) := by
  refine q_T.of (lv := [some (.ref 64), none, none]) (by decide) rfl (Nat.le_of_ble_eq_true rfl) ?_
  have hR1 := hR.1
  have hR2 := hR.2.1
  have hR3 := hR.2.2.1
  have hR4 := hR.2.2.2.1
  refine q_aload_n dX12_readsPerson_0 rfl ?_
  refine q_cV [] kX12_98_12 rfl (tX12_here w μ hR (by omega)) dX12_readsPerson_1 rfl (by decide) (Nat.le_of_ble_eq_true rfl) rfl ?_
  show q_J _ _ _ _ _ _ _ [q_i (m_b μ (μ 17 0))] (m_w w μ)
  refine q_cS [q_i (m_b μ (μ 17 0))] kX12_114 (tX12_kindOfLetter (m_w w μ) (m_b μ (μ 17 0)) (m_b_r hR (μ 17 0))) dX12_readsPerson_4 rfl (by decide) (Nat.le_of_ble_eq_true rfl) rfl ?_
  refine q_istore_n (lv' := [some (.ref 64), some (q_i (z_kd (m_b μ (μ 17 0)))), none]) dX12_readsPerson_7 (by decide) rfl ?_
  refine q_iload_n dX12_readsPerson_8 rfl ?_
  refine q_bipush dX12_readsPerson_9 ?_
  refine q_icmp_eq (tgt := 22) dX12_readsPerson_11 (by decide) ⟨by have := z_kd_r (m_b μ (μ 17 0)); omega, by have := z_kd_r (m_b μ (μ 17 0)); omega⟩ ⟨by decide, by decide⟩ (fun h11 => ?_) (fun h11 => ?_)
  · skip
    refine q_iconst dX12_readsPerson_22 ?_
    exact q_zret rfl (Or.inl rfl) dX12_readsPerson_23 (⟨by (unfold m_rp_v m_k0; (repeat' split) <;> first | rfl | (exfalso; omega)), by (unfold m_rp_s m_k0; (repeat' split) <;> first | rfl | (exfalso; omega))⟩)
  · skip
    refine q_aload_n dX12_readsPerson_14 rfl ?_
    refine q_get (v := q_i (μ 22 0)) fX12_117_12 rfl rfl dX12_readsPerson_15 ?_
    refine q_iconst dX12_readsPerson_18 ?_
    refine q_icmp_ne (tgt := 24) dX12_readsPerson_19 (by decide) ⟨by omega, by omega⟩ ⟨by decide, by decide⟩ (fun h19 => ?_) (fun h19 => ?_)
    · skip
      refine q_aload_n dX12_readsPerson_24 rfl ?_
      refine q_dup dX12_readsPerson_25 rfl ?_
      refine q_get (v := q_i (μ 17 0)) fX12_92_12 rfl rfl dX12_readsPerson_26 ?_
      refine q_iconst dX12_readsPerson_29 ?_
      refine q_iadd dX12_readsPerson_30 ?_
      refine q_puti (fs := m_o μ) pX12_92_12 rfl (Nat.le_of_ble_eq_true rfl) dX12_readsPerson_31 ?_
      rw [m_p17]
      have hP1 := m_y1_R hR hlt
      show q_J _ _ _ _ _ _ _ _ (m_w w (m_y1 μ))
      refine q_aload_n dX12_readsPerson_34 rfl ?_
      refine q_iconst dX12_readsPerson_35 ?_
      refine q_iconst dX12_readsPerson_36 ?_
      refine q_cV [q_i 1, q_i 3] kX12_105_12 rfl (tX12_figure w (m_y1 μ) 1 3 (by decide) (by decide) hP1) dX12_readsPerson_37 rfl (by decide) (Nat.le_of_ble_eq_true rfl) rfl ?_
      show q_J _ _ _ _ _ _ _ [q_i (m_f0 μ)] (m_w w (m_y2 μ))
      refine q_istore_n (lv' := [some (.ref 64), some (q_i (z_kd (m_b μ (μ 17 0)))), some (q_i (m_f0 μ))]) dX12_readsPerson_40 (by decide) rfl ?_
      refine q_iload_n dX12_readsPerson_41 rfl ?_
      refine q_bipush dX12_readsPerson_42 ?_
      refine q_icmp_ne (tgt := 49) dX12_readsPerson_44 (by decide) ⟨by have := m_fg_r hP1 1 3; unfold m_f0; omega, by have := m_fg_r hP1 1 3; unfold m_f0; omega⟩ ⟨by decide, by decide⟩ (fun h44 => ?_) (fun h44 => ?_)
      · skip
        have e21 : (m_y2 μ) 21 = μ 21 := m_fg_k (m_y1 μ) 1 3 (by decide)
        have e22 : (m_y2 μ) 22 = μ 22 := m_fg_k (m_y1 μ) 1 3 (by decide)
        refine q_aload_n dX12_readsPerson_49 rfl ?_
        refine q_get (v := .ref 73) fX12_39_12 rfl rfl dX12_readsPerson_50 ?_
        refine q_iconst dX12_readsPerson_53 ?_
        refine q_aload_n dX12_readsPerson_54 rfl ?_
        refine q_get (v := q_i ((m_y2 μ) 22 0)) fX12_117_12 rfl rfl dX12_readsPerson_55 ?_
        rw [e22]
        refine q_imul dX12_readsPerson_58 ?_
        refine q_iload_n dX12_readsPerson_59 rfl ?_
        refine q_iast (f := ((m_y2 μ) 21)) (n9 := 10) rfl (by omega) (by omega) dX12_readsPerson_60 ?_
        rw [m_a21]
        refine q_aload_n dX12_readsPerson_61 rfl ?_
        refine q_get (v := .ref 73) fX12_39_12 rfl rfl dX12_readsPerson_62 ?_
        refine q_iconst dX12_readsPerson_65 ?_
        refine q_aload_n dX12_readsPerson_66 rfl ?_
        refine q_get (v := q_i ((m_y2 μ) 22 0)) fX12_117_12 rfl rfl dX12_readsPerson_67 ?_
        rw [e22]
        refine q_imul dX12_readsPerson_70 ?_
        refine q_iconst dX12_readsPerson_71 ?_
        refine q_iadd dX12_readsPerson_72 ?_
        refine q_iload_n dX12_readsPerson_73 rfl ?_
        refine q_iast (f := (q_us ((m_y2 μ) 21) (2 * (μ 22 0)) (z_kd (m_b μ (μ 17 0))))) (n9 := 10) rfl (by omega) (by omega) dX12_readsPerson_74 ?_
        rw [m_a21]
        refine q_aload_n dX12_readsPerson_75 rfl ?_
        refine q_dup dX12_readsPerson_76 rfl ?_
        refine q_get (v := q_i ((m_y2 μ) 22 0)) fX12_117_12 rfl rfl dX12_readsPerson_77 ?_
        rw [e22]
        refine q_iconst dX12_readsPerson_80 ?_
        refine q_iadd dX12_readsPerson_81 ?_
        refine q_puti (fs := m_o (m_u (m_u (m_y2 μ) 21 (q_us ((m_y2 μ) 21) (2 * (μ 22 0)) (z_kd (m_b μ (μ 17 0))))) 21 (q_us (q_us ((m_y2 μ) 21) (2 * (μ 22 0)) (z_kd (m_b μ (μ 17 0)))) ((2 * (μ 22 0)) + 1) (m_f0 μ)))) pX12_117_12 rfl (Nat.le_of_ble_eq_true rfl) dX12_readsPerson_82 ?_
        rw [m_p22]
        refine q_iconst dX12_readsPerson_85 ?_
        exact q_zret rfl (Or.inr rfl) dX12_readsPerson_86 (⟨by (unfold m_rp_v m_k0; (repeat' split) <;> first | rfl | (exfalso; omega)), by rw [m_uu]; unfold m_rp_s; rw [if_neg (by unfold m_k0; omega), if_neg (by omega), if_neg (by omega)]; unfold m_y3 m_rpa m_k0; rw [e21]⟩)
      · skip
        refine q_iconst dX12_readsPerson_47 ?_
        exact q_zret rfl (Or.inl rfl) dX12_readsPerson_48 (⟨by (unfold m_rp_v m_k0; (repeat' split) <;> first | rfl | (exfalso; omega)), by (unfold m_rp_s m_k0; (repeat' split) <;> first | rfl | (exfalso; omega))⟩)
    · skip
      refine q_iconst dX12_readsPerson_22 ?_
      exact q_zret rfl (Or.inl rfl) dX12_readsPerson_23 (⟨by (unfold m_rp_v m_k0; (repeat' split) <;> first | rfl | (exfalso; omega)), by (unfold m_rp_s m_k0; (repeat' split) <;> first | rfl | (exfalso; omega))⟩)
