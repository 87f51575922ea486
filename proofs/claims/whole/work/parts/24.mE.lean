/-! the reference: deeds -/
def m_left (μ : m_S) (o t : Int) : Int := z_sum (fun c => if 0 < (z_w1 (μ 5) (m_fl μ) (μ 1 0) (μ 2 0) (μ 6 c) o t c) then 1 else 0) (μ 3 0)
def m_dr (μ : m_S) (o t : Int) : Int → Int := q_us (q_us (q_us (μ 0) (6 + μ 0 0) o) (22 + μ 0 0) t) 0 (μ 0 0 + 1)
def m_dd_v (μ : m_S) (o t : Int) : Int := if m_left μ o t = 0 then -3 else if μ 0 0 = 16 then -2 else m_left μ o t
def m_dd_s (μ : m_S) (o t : Int) : m_S := if m_left μ o t = 0 then m_find μ 4 else if μ 0 0 = 16 then μ else m_lw (m_u μ 0 (m_dr μ o t))
theorem m_left_r {μ : m_S} (o t : Int) (hS : 0 ≤ μ 3 0 ∧ μ 3 0 ≤ 216) : 0 ≤ m_left μ o t ∧ m_left μ o t ≤ 216 := by
  have h := z_sum_b (fun c => if 0 < (z_w1 (μ 5) (m_fl μ) (μ 1 0) (μ 2 0) (μ 6 c) o t c) then 1 else 0) 0 1 hS.1 (fun j _ _ => by (try dsimp only); split <;> omega)
  unfold m_left
  omega
theorem m_dr_o {μ : m_S} (o t : Int) {j : Int} (h0 : j ≠ 0) (h1 : j ≠ 6 + μ 0 0) (h2 : j ≠ 22 + μ 0 0) : m_dr μ o t j = μ 0 j := by
  unfold m_dr
  rw [q_us_n h0, q_us_n h2, q_us_n h1]
theorem m_Sh_row {μ : m_S} {f : Int → Int} (h : m_Sh μ) (hf : ∀ p, 0 ≤ p → p < 5 → f (1 + p) = μ 0 (1 + p)) : m_Sh (m_u μ 0 f) := by
  rcases h with h | h
  · exact Or.inl h
  · refine Or.inr ⟨h.1, h.2.1, h.2.2.1, h.2.2.2.1, fun p h0 h1 => ?_⟩
    have h2 := h.2.2.2.2 p h0 h1
    have h3 := h.2.2.2.1
    show 0 ≤ μ 5 p ∧ μ 5 p ≤ 5 ∧ 1 ≤ f (1 + p) ∧ f (1 + p) ≤ 3
    have h1' : p < μ 4 0 := h1
    rw [hf p h0 (by omega)]
    exact h2
theorem m_De_add {μ : m_S} (hD : m_De μ) {o t : Int} (ho : o = -9 ∨ (0 ≤ o ∧ o < μ 4 0)) (ht : 0 ≤ t ∧ t < μ 3 0) (h16 : μ 0 0 < 16) : m_De (m_u μ 0 (m_dr μ o t)) := by
  have h0 := hD.1
  have e0 : m_dr μ o t 0 = μ 0 0 + 1 := by unfold m_dr; rw [q_us_s]
  refine ⟨?_, fun d hd0 hd1 => ?_⟩
  · show 0 ≤ m_dr μ o t 0 ∧ m_dr μ o t 0 ≤ 16
    omega
  · have hd1' : d < m_dr μ o t 0 := hd1
    show (m_dr μ o t (6 + d) = -9 ∨ (0 ≤ m_dr μ o t (6 + d) ∧ m_dr μ o t (6 + d) < μ 4 0)) ∧ 0 ≤ m_dr μ o t (22 + d) ∧ m_dr μ o t (22 + d) < μ 3 0
    by_cases e : d = μ 0 0
    · subst e
      have e1 : m_dr μ o t (6 + μ 0 0) = o := by unfold m_dr; rw [q_us_n (by omega), q_us_n (by omega), q_us_s]
      have e2 : m_dr μ o t (22 + μ 0 0) = t := by unfold m_dr; rw [q_us_n (by omega), q_us_s]
      rw [e1, e2]
      exact ⟨ho, ht⟩
    · have h2 := hD.2 d hd0 (by omega)
      rw [m_dr_o o t (by omega) (by omega) (by omega), m_dr_o o t (by omega) (by omega) (by omega)]
      exact h2
set_option maxRecDepth 20000 in
theorem tX12_doDeed (w : q_W) (μ : m_S) (o t : Int) (ho : o = -9 ∨ (0 ≤ o ∧ o < μ 4 0)) (ht0 : 0 ≤ t) (ht1 : t < μ 3 0) (hG : m_G μ) (hD : m_De μ) (hV : m_V μ) : q_D mX12_doDeed 7 [.ref 64, q_i o, q_i t] (m_w w μ) (some (q_i (m_dd_v μ o t))) (m_w w (m_dd_s μ o t)) := by
  refine q_T.of (lv := [some (.ref 64), some (q_i o), some (q_i t), none, none]) (by decide) rfl (Nat.le_of_ble_eq_true rfl) ?_
  have hW := hG.1
  have hN := hG.2.1
  have hS := hG.S
  have hPn := hG.2.2.2.1
  have hD0 := hD.1
  have hlr := m_left_r (μ := μ) o t (by omega)
  refine q_iconst dX12_doDeed_0 ?_
  refine q_istore_n (lv' := [some (.ref 64), some (q_i o), some (q_i t), some (q_i 0), none]) dX12_doDeed_1 (by decide) rfl ?_
  refine q_iconst dX12_doDeed_2 ?_
  refine q_istore (lv' := [some (.ref 64), some (q_i o), some (q_i t), some (q_i 0), some (q_i 0)]) dX12_doDeed_3 (by decide) rfl ?_
  have L5 : ∀ (m9 : Nat) (k : Int) (hk0 : 0 ≤ k) (hk1 : k ≤ μ 3 0) (hm9 : μ 3 0 - k < (m9 : Int)), q_J mX12_doDeed 7 (fun v' w' => v' = (some (q_i (m_dd_v μ o t))) ∧ w' = (m_w w (m_dd_s μ o t))) 0 0 5 [some (.ref 64), some (q_i o), some (q_i t), some (q_i (z_sum (fun c => if 0 < (z_w1 (μ 5) (m_fl μ) (μ 1 0) (μ 2 0) (μ 6 c) o t c) then 1 else 0) k)), some (q_i k)] [] (m_w w μ) := by
    intro m9
    induction m9 with
    | zero => intro k hk0 hk1 hm9; exact absurd hm9 (by omega)
    | succ m9 ih5 =>
      intro k hk0 hk1 hm9
      refine q_iload dX12_doDeed_5 rfl ?_
      refine q_aload_n dX12_doDeed_7 rfl ?_
      refine q_get (v := q_i (μ 3 0)) fX12_139_12 rfl rfl dX12_doDeed_8 ?_
      refine q_icmp_ge (tgt := 48) dX12_doDeed_11 (by decide) ⟨by omega, by omega⟩ ⟨by omega, by omega⟩ (fun h11 => ?_) (fun h11 => ?_)
      · skip
        have hke : k = μ 3 0 := by omega
        subst hke
        refine q_Jle (lv' := [some (.ref 64), some (q_i o), some (q_i t), some (q_i (m_left μ o t)), none]) (q_le_s rfl (q_le_s rfl (q_le_s rfl (q_le_s rfl (q_le_n (q_le_e _)))))) rfl rfl ?_
        refine q_iload_n dX12_doDeed_48 rfl ?_
        refine q_if_ne (tgt := 58) dX12_doDeed_49 (by decide) ⟨by omega, by omega⟩ (fun h49 => ?_) (fun h49 => ?_)
        · skip
          refine q_aload_n dX12_doDeed_58 rfl ?_
          refine q_get (v := .ref 65) fX12_7_12 rfl rfl dX12_doDeed_59 ?_
          refine q_iconst dX12_doDeed_62 ?_
          refine q_iald (f := (μ 0)) (n9 := 152) rfl (by omega) (by omega) dX12_doDeed_63 ?_
          refine q_bipush dX12_doDeed_64 ?_
          refine q_icmp_ne (tgt := 72) dX12_doDeed_66 (by decide) ⟨by omega, by omega⟩ ⟨by decide, by decide⟩ (fun h66 => ?_) (fun h66 => ?_)
          · skip
            refine q_aload_n dX12_doDeed_72 rfl ?_
            refine q_get (v := .ref 65) fX12_7_12 rfl rfl dX12_doDeed_73 ?_
            refine q_bipush dX12_doDeed_76 ?_
            refine q_aload_n dX12_doDeed_78 rfl ?_
            refine q_get (v := .ref 65) fX12_7_12 rfl rfl dX12_doDeed_79 ?_
            refine q_iconst dX12_doDeed_82 ?_
            refine q_iald (f := (μ 0)) (n9 := 152) rfl (by omega) (by omega) dX12_doDeed_83 ?_
            refine q_iadd dX12_doDeed_84 ?_
            refine q_iload_n dX12_doDeed_85 rfl ?_
            refine q_iast (f := (μ 0)) (n9 := 152) rfl (by omega) (by omega) dX12_doDeed_86 ?_
            rw [m_a0]
            refine q_aload_n dX12_doDeed_87 rfl ?_
            refine q_get (v := .ref 65) fX12_7_12 rfl rfl dX12_doDeed_88 ?_
            refine q_bipush dX12_doDeed_91 ?_
            refine q_aload_n dX12_doDeed_93 rfl ?_
            refine q_get (v := .ref 65) fX12_7_12 rfl rfl dX12_doDeed_94 ?_
            refine q_iconst dX12_doDeed_97 ?_
            refine q_iald (f := (q_us (μ 0) (6 + ((μ 0) 0)) o)) (n9 := 152) rfl (by omega) (by omega) dX12_doDeed_98 ?_
            rw [q_us_n (show (0 : Int) ≠ 6 + μ 0 0 by omega)]
            refine q_iadd dX12_doDeed_99 ?_
            refine q_iload_n dX12_doDeed_100 rfl ?_
            refine q_iast (f := (q_us (μ 0) (6 + ((μ 0) 0)) o)) (n9 := 152) rfl (by omega) (by omega) dX12_doDeed_101 ?_
            rw [m_a0]
            refine q_aload_n dX12_doDeed_102 rfl ?_
            refine q_get (v := .ref 65) fX12_7_12 rfl rfl dX12_doDeed_103 ?_
            refine q_iconst dX12_doDeed_106 ?_
            refine q_dup2 dX12_doDeed_107 rfl rfl ?_
            refine q_iald (f := (q_us (q_us (μ 0) (6 + ((μ 0) 0)) o) (22 + ((μ 0) 0)) t)) (n9 := 152) rfl (by omega) (by omega) dX12_doDeed_108 ?_
            rw [q_us_n (show (0 : Int) ≠ 22 + μ 0 0 by omega), q_us_n (show (0 : Int) ≠ 6 + μ 0 0 by omega)]
            refine q_iconst dX12_doDeed_109 ?_
            refine q_iadd dX12_doDeed_110 ?_
            refine q_iast (f := (q_us (q_us (μ 0) (6 + ((μ 0) 0)) o) (22 + ((μ 0) 0)) t)) (n9 := 152) rfl (by omega) (by omega) dX12_doDeed_111 ?_
            rw [m_a0]
            rw [m_uu, m_uu]
            have hH1 := m_Sh_row (f := m_dr μ o t) (Or.inr hG) (fun p h0 h1 => m_dr_o o t (by omega) (by omega) (by omega))
            have hD1 := m_De_add hD ho ⟨ht0, ht1⟩ (by omega)
            show q_J _ _ _ _ _ _ _ _ (m_w w (m_u μ 0 (m_dr μ o t)))
            refine q_aload_n dX12_doDeed_112 rfl ?_
            refine q_cVv [] kX12_145_12 rfl (tX12_layWeights w (m_u μ 0 (m_dr μ o t)) hH1 hD1) dX12_doDeed_113 rfl (by decide) (Nat.le_of_ble_eq_true rfl) rfl ?_
            refine q_iload_n dX12_doDeed_116 rfl ?_
            exact q_iret rfl dX12_doDeed_117 (⟨by (unfold m_dd_v; (repeat' split) <;> first | rfl | (exfalso; omega)), by (unfold m_dd_s; (repeat' split) <;> first | rfl | (exfalso; omega))⟩)
          · skip
            refine q_bipush dX12_doDeed_69 ?_
            exact q_iret rfl dX12_doDeed_71 (⟨by (unfold m_dd_v; (repeat' split) <;> first | rfl | (exfalso; omega)), by (unfold m_dd_s; (repeat' split) <;> first | rfl | (exfalso; omega))⟩)
        · skip
          refine q_aload_n dX12_doDeed_52 rfl ?_
          refine q_iconst dX12_doDeed_53 ?_
          refine q_cV [q_i 4] kX12_67_12 rfl (tX12_find w μ 4 (by decide) (by decide)) dX12_doDeed_54 rfl (by decide) (Nat.le_of_ble_eq_true rfl) rfl ?_
          exact q_iret rfl dX12_doDeed_57 (⟨by (unfold m_dd_v; (repeat' split) <;> first | rfl | (exfalso; omega)), by (unfold m_dd_s; (repeat' split) <;> first | rfl | (exfalso; omega))⟩)
      · skip
        refine q_iload_n dX12_doDeed_14 rfl ?_
        refine q_aload_n dX12_doDeed_15 rfl ?_
        refine q_aload_n dX12_doDeed_16 rfl ?_
        refine q_get (v := .ref 67) fX12_16_12 rfl rfl dX12_doDeed_17 ?_
        refine q_iload dX12_doDeed_20 rfl ?_
        refine q_lald (f := (μ 6)) (n9 := 216) rfl (by omega) (by omega) dX12_doDeed_22 ?_
        refine q_iload_n dX12_doDeed_23 rfl ?_
        refine q_iload_n dX12_doDeed_24 rfl ?_
        refine q_iload dX12_doDeed_25 rfl ?_
        refine q_cV [q_l ((μ 6) k), q_i o, q_i t, q_i k] kX12_173_12 rfl (tX12_weightBy w μ ((μ 6) k) o t k ho ht0 ht1 hk0 (by omega) hG) dX12_doDeed_27 rfl (by decide) (Nat.le_of_ble_eq_true rfl) rfl ?_
        refine q_lconst 0 dX12_doDeed_30 ?_
        refine q_lcmp_le (tgt := 39) dX12_doDeed_31 dX12_doDeed_32 (by decide) ⟨by have := z_w1_r (kd := μ 5) (fl := m_fl μ) (N := μ 2 0) (B := 4294967296) o t k hW (hV.2 k hk0 (by omega)); omega, by have := z_w1_r (kd := μ 5) (fl := m_fl μ) (N := μ 2 0) (B := 4294967296) o t k hW (hV.2 k hk0 (by omega)); omega⟩ ⟨by decide, by decide⟩ (fun h31 => ?_) (fun h31 => ?_)
        · skip
          refine q_iconst dX12_doDeed_39 ?_
          refine q_iadd dX12_doDeed_40 ?_
          refine q_istore_n (lv' := [some (.ref 64), some (q_i o), some (q_i t), some (q_i ((z_sum (fun c => if 0 < (z_w1 (μ 5) (m_fl μ) (μ 1 0) (μ 2 0) (μ 6 c) o t c) then 1 else 0) k) + 0)), some (q_i k)]) dX12_doDeed_41 (by decide) rfl ?_
          refine q_iinc (lv' := [some (.ref 64), some (q_i o), some (q_i t), some (q_i ((z_sum (fun c => if 0 < (z_w1 (μ 5) (m_fl μ) (μ 1 0) (μ 2 0) (μ 6 c) o t c) then 1 else 0) k) + 0)), some (q_i (k + 1))]) dX12_doDeed_42 rfl (by decide) rfl ?_
          refine q_goto (tgt := 5) dX12_doDeed_45 (by decide) ?_
          exact q_Jle (q_le_s (rfl) (q_le_s (rfl) (q_le_s (rfl) (q_le_s (by rw [z_sum_s _ hk0]; (try dsimp only); (repeat' split) <;> first | rfl | (exfalso; omega)) (q_le_s (rfl) (q_le_e _)))))) (rfl) (rfl) (ih5 (k + 1) (by omega) (by omega) (by omega))
        · skip
          refine q_iconst dX12_doDeed_35 ?_
          refine q_goto (tgt := 40) dX12_doDeed_36 (by decide) ?_
          refine q_iadd dX12_doDeed_40 ?_
          refine q_istore_n (lv' := [some (.ref 64), some (q_i o), some (q_i t), some (q_i ((z_sum (fun c => if 0 < (z_w1 (μ 5) (m_fl μ) (μ 1 0) (μ 2 0) (μ 6 c) o t c) then 1 else 0) k) + 1)), some (q_i k)]) dX12_doDeed_41 (by decide) rfl ?_
          refine q_iinc (lv' := [some (.ref 64), some (q_i o), some (q_i t), some (q_i ((z_sum (fun c => if 0 < (z_w1 (μ 5) (m_fl μ) (μ 1 0) (μ 2 0) (μ 6 c) o t c) then 1 else 0) k) + 1)), some (q_i (k + 1))]) dX12_doDeed_42 rfl (by decide) rfl ?_
          refine q_goto (tgt := 5) dX12_doDeed_45 (by decide) ?_
          exact q_Jle (q_le_s (rfl) (q_le_s (rfl) (q_le_s (rfl) (q_le_s (by rw [z_sum_s _ hk0]; (try dsimp only); (repeat' split) <;> first | rfl | (exfalso; omega)) (q_le_s (rfl) (q_le_e _)))))) (rfl) (rfl) (ih5 (k + 1) (by omega) (by omega) (by omega))
  exact q_Jle (q_le_s (rfl) (q_le_s (rfl) (q_le_s (rfl) (q_le_s (rfl) (q_le_s (rfl) (q_le_e _)))))) (rfl) (rfl) (L5 ((μ 3 0 : Int).toNat + 1) 0 (by omega) (by omega) (by omega))
def m_look_v (μ : m_S) (p t : Int) : Int := if ¬ (0 ≤ p ∧ p ≤ μ 4 0 - 1) then -1 else if ¬ (0 ≤ t ∧ t ≤ μ 3 0 - 1) then -1 else m_dd_v μ p t
def m_look_s (μ : m_S) (p t : Int) : m_S := if ¬ (0 ≤ p ∧ p ≤ μ 4 0 - 1) then μ else if ¬ (0 ≤ t ∧ t ≤ μ 3 0 - 1) then μ else m_dd_s μ p t
def m_vain_v (μ : m_S) (t : Int) : Int := if ¬ (0 ≤ t ∧ t ≤ μ 3 0 - 1) then -1 else m_dd_v μ (-9) t
def m_vain_s (μ : m_S) (t : Int) : m_S := if ¬ (0 ≤ t ∧ t ≤ μ 3 0 - 1) then μ else m_dd_s μ (-9) t
set_option maxRecDepth 20000 in
theorem tX12_look (w : q_W) (μ : m_S) (p t : Int) (hp : q_r p) (ht : q_r t) (hH : m_Sh μ) (hD : m_De μ) (hV : m_V μ) : q_D mX12_look 8 [.ref 64, q_i p, q_i t] (m_w w μ) (some (q_i (m_look_v μ p t))) (m_w w (m_look_s μ p t)) := by
  refine q_T.of (lv := [some (.ref 64), some (q_i p), some (q_i t)]) (by decide) rfl (Nat.le_of_ble_eq_true rfl) ?_
  have hb := hH.b
  refine q_aload_n dX12_look_0 rfl ?_
  refine q_iload_n dX12_look_1 rfl ?_
  refine q_cV [q_i p] kX12_183_12 rfl (tX12_isPerson w μ p (hp) (by omega) (by omega)) dX12_look_2 rfl (by decide) (Nat.le_of_ble_eq_true rfl) rfl ?_
  refine q_ifb_eq (tgt := 25) dX12_look_5 (by decide) (fun h5 => ?_) (fun h5 => ?_)
  · skip
    refine q_iconst dX12_look_25 ?_
    exact q_iret rfl dX12_look_26 (⟨by (unfold m_look_v; (repeat' split) <;> first | rfl | (exfalso; omega)), by (unfold m_look_s; (repeat' split) <;> first | rfl | (exfalso; omega))⟩)
  · skip
    refine q_aload_n dX12_look_8 rfl ?_
    refine q_iload_n dX12_look_9 rfl ?_
    refine q_cV [q_i t] kX12_205_12 rfl (tX12_isSetting w μ t (ht) (by omega) (by omega)) dX12_look_10 rfl (by decide) (Nat.le_of_ble_eq_true rfl) rfl ?_
    refine q_ifb_eq (tgt := 25) dX12_look_13 (by decide) (fun h13 => ?_) (fun h13 => ?_)
    · skip
      refine q_iconst dX12_look_25 ?_
      exact q_iret rfl dX12_look_26 (⟨by (unfold m_look_v; (repeat' split) <;> first | rfl | (exfalso; omega)), by (unfold m_look_s; (repeat' split) <;> first | rfl | (exfalso; omega))⟩)
    · skip
      have hG := hH.g (by omega)
      refine q_aload_n dX12_look_16 rfl ?_
      refine q_iload_n dX12_look_17 rfl ?_
      refine q_iload_n dX12_look_18 rfl ?_
      refine q_cV [q_i p, q_i t] kX12_208_12 rfl (tX12_doDeed w μ p t (Or.inr ⟨by omega, by omega⟩) (by omega) (by omega) hG hD hV) dX12_look_19 rfl (by decide) (Nat.le_of_ble_eq_true rfl) rfl ?_
      refine q_goto (tgt := 26) dX12_look_22 (by decide) ?_
      exact q_iret rfl dX12_look_26 (⟨by (unfold m_look_v; (repeat' split) <;> first | rfl | (exfalso; omega)), by (unfold m_look_s; (repeat' split) <;> first | rfl | (exfalso; omega))⟩)
set_option maxRecDepth 20000 in
theorem tX12_vain (w : q_W) (μ : m_S) (t : Int) (ht : q_r t) (hH : m_Sh μ) (hD : m_De μ) (hV : m_V μ) : q_D mX12_vain 8 [.ref 64, q_i t] (m_w w μ) (some (q_i (m_vain_v μ t))) (m_w w (m_vain_s μ t)) := by
  refine q_T.of (lv := [some (.ref 64), some (q_i t)]) (by decide) rfl (Nat.le_of_ble_eq_true rfl) ?_
  have hb := hH.b
  refine q_aload_n dX12_vain_0 rfl ?_
  refine q_iload_n dX12_vain_1 rfl ?_
  refine q_cV [q_i t] kX12_205_12 rfl (tX12_isSetting w μ t (ht) (by omega) (by omega)) dX12_vain_2 rfl (by decide) (Nat.le_of_ble_eq_true rfl) rfl ?_
  refine q_ifb_eq (tgt := 18) dX12_vain_5 (by decide) (fun h5 => ?_) (fun h5 => ?_)
  · skip
    refine q_iconst dX12_vain_18 ?_
    exact q_iret rfl dX12_vain_19 (⟨by (unfold m_vain_v; (repeat' split) <;> first | rfl | (exfalso; omega)), by (unfold m_vain_s; (repeat' split) <;> first | rfl | (exfalso; omega))⟩)
  · skip
    have hG := hH.g (by omega)
    refine q_aload_n dX12_vain_8 rfl ?_
    refine q_bipush dX12_vain_9 ?_
    refine q_iload_n dX12_vain_11 rfl ?_
    refine q_cV [q_i (-9), q_i t] kX12_208_12 rfl (tX12_doDeed w μ (-9) t (Or.inl rfl) (by omega) (by omega) hG hD hV) dX12_vain_12 rfl (by decide) (Nat.le_of_ble_eq_true rfl) rfl ?_
    refine q_goto (tgt := 19) dX12_vain_15 (by decide) ?_
    exact q_iret rfl dX12_vain_19 (⟨by (unfold m_vain_v; (repeat' split) <;> first | rfl | (exfalso; omega)), by (unfold m_vain_s; (repeat' split) <;> first | rfl | (exfalso; omega))⟩)
theorem m_De_row {μ : m_S} {f : Int → Int} (h0 : 0 ≤ f 0 ∧ f 0 ≤ 16) (h : ∀ d, 0 ≤ d → d < f 0 → (f (6 + d) = -9 ∨ (0 ≤ f (6 + d) ∧ f (6 + d) < μ 4 0)) ∧ 0 ≤ f (22 + d) ∧ f (22 + d) < μ 3 0) : m_De (m_u μ 0 f) := ⟨h0, h⟩
def m_undo_v (μ : m_S) (n : Int) : Int := if ¬ (0 ≤ n ∧ n ≤ μ 0 0) then -1 else μ 0 0 - n
def m_undo_s (μ : m_S) (n : Int) : m_S := if ¬ (0 ≤ n ∧ n ≤ μ 0 0) then μ else m_lw (m_u μ 0 (q_us (μ 0) 0 n))
set_option maxRecDepth 20000 in
theorem tX12_undo (w : q_W) (μ : m_S) (n : Int) (hn : q_r n) (hH : m_Sh μ) (hD : m_De μ) : q_D mX12_undo 7 [.ref 64, q_i n] (m_w w μ) (some (q_i (m_undo_v μ n))) (m_w w (m_undo_s μ n)) := by
  refine q_T.of (lv := [some (.ref 64), some (q_i n), none]) (by decide) rfl (Nat.le_of_ble_eq_true rfl) ?_
  have hb := hH.b
  have hD0 := hD.1
  refine q_iload_n dX12_undo_0 rfl ?_
  refine q_i2lr dX12_undo_1 hn ?_
  refine q_lconst 0 dX12_undo_2 ?_
  refine q_aload_n dX12_undo_3 rfl ?_
  refine q_get (v := .ref 65) fX12_7_12 rfl rfl dX12_undo_4 ?_
  refine q_iconst dX12_undo_7 ?_
  refine q_iald (f := (μ 0)) (n9 := 152) rfl (by omega) (by omega) dX12_undo_8 ?_
  refine q_i2lr dX12_undo_9 ⟨by omega, by omega⟩ ?_
  refine q_cS [q_l n, q_l 0, q_l ((μ 0) 0)] kX12_57 (tX12_in n 0 ((μ 0) 0) (⟨by have := (hn).1; omega, by have := (hn).2; omega⟩) (⟨by decide, by decide⟩) (⟨by omega, by omega⟩) (m_w w μ)) dX12_undo_10 rfl (by decide) (Nat.le_of_ble_eq_true rfl) rfl ?_
  refine q_ifb_ne (tgt := 18) dX12_undo_13 (by decide) (fun h13 => ?_) (fun h13 => ?_)
  · skip
    refine q_aload_n dX12_undo_18 rfl ?_
    refine q_get (v := .ref 65) fX12_7_12 rfl rfl dX12_undo_19 ?_
    refine q_iconst dX12_undo_22 ?_
    refine q_iald (f := (μ 0)) (n9 := 152) rfl (by omega) (by omega) dX12_undo_23 ?_
    refine q_iload_n dX12_undo_24 rfl ?_
    refine q_isub dX12_undo_25 ?_
    refine q_istore_n (lv' := [some (.ref 64), some (q_i n), some (q_i (((μ 0) 0) - n))]) dX12_undo_26 (by decide) rfl ?_
    refine q_aload_n dX12_undo_27 rfl ?_
    refine q_get (v := .ref 65) fX12_7_12 rfl rfl dX12_undo_28 ?_
    refine q_iconst dX12_undo_31 ?_
    refine q_iload_n dX12_undo_32 rfl ?_
    refine q_iast (f := (μ 0)) (n9 := 152) rfl (by omega) (by omega) dX12_undo_33 ?_
    rw [m_a0]
    have hH1 : m_Sh (m_u μ 0 (q_us (μ 0) 0 n)) := m_Sh_row hH (fun p h0 h1 => q_us_n (by omega))
    have hD1 : m_De (m_u μ 0 (q_us (μ 0) 0 n)) := m_De_row (by rw [q_us_s]; omega) (fun d hd0 hd1 => by rw [q_us_s] at hd1; rw [q_us_n (by omega), q_us_n (by omega)]; exact hD.2 d hd0 (by omega))
    refine q_aload_n dX12_undo_34 rfl ?_
    refine q_cVv [] kX12_145_12 rfl (tX12_layWeights w (m_u μ 0 (q_us (μ 0) 0 n)) hH1 hD1) dX12_undo_35 rfl (by decide) (Nat.le_of_ble_eq_true rfl) rfl ?_
    refine q_iload_n dX12_undo_38 rfl ?_
    exact q_iret rfl dX12_undo_39 (⟨by (unfold m_undo_v; (repeat' split) <;> first | rfl | (exfalso; omega)), by (unfold m_undo_s; (repeat' split) <;> first | rfl | (exfalso; omega))⟩)
  · skip
    refine q_iconst dX12_undo_16 ?_
    exact q_iret rfl dX12_undo_17 (⟨by (unfold m_undo_v; (repeat' split) <;> first | rfl | (exfalso; omega)), by (unfold m_undo_s; (repeat' split) <;> first | rfl | (exfalso; omega))⟩)
theorem q_cpy_o (f g : Int → Int) {s d k j : Int} (h : j < d ∨ d + k ≤ j) : q_cpy f g s d k j = g j := by
  unfold q_cpy
  rw [if_neg (by omega)]
theorem q_cpy_i (f g : Int → Int) {s d k j : Int} (h0 : d ≤ j) (h1 : j < d + k) : q_cpy f g s d k j = f (s + (j - d)) := by
  unfold q_cpy
  rw [if_pos ⟨h0, h1⟩]
set_option maxRecDepth 20000 in
theorem tX12_copyShed (w : q_W) (μ : m_S) (a b : Int) (ha0 : 0 ≤ a) (ha1 : a ≤ 114) (hb0 : 0 ≤ b) (hb1 : b ≤ 114) (hab : a + 38 ≤ b ∨ b + 38 ≤ a) : q_D mX12_copyShed 0 [.ref 64, q_i a, q_i b] (m_w w μ) none (m_w w (m_u μ 0 (q_cpy (μ 0) (μ 0) a b 38))) := by
  refine q_T.of (lv := [some (.ref 64), some (q_i a), some (q_i b), none]) (by decide) rfl (Nat.le_of_ble_eq_true rfl) ?_
  refine q_iconst dX12_copyShed_0 ?_
  refine q_istore_n (lv' := [some (.ref 64), some (q_i a), some (q_i b), some (q_i 0)]) dX12_copyShed_1 (by decide) rfl ?_
  have L2 : ∀ (m9 : Nat) (k : Int) (hk0 : 0 ≤ k) (hk1 : k ≤ 38) (hm9 : 38 - k < (m9 : Int)), q_J mX12_copyShed 0 (fun v' w' => v' = none ∧ w' = (m_w w (m_u μ 0 (q_cpy (μ 0) (μ 0) a b 38)))) 0 0 2 [some (.ref 64), some (q_i a), some (q_i b), some (q_i k)] [] (m_w w (m_u μ 0 (q_cpy (μ 0) (μ 0) a b k))) := by
    intro m9
    induction m9 with
    | zero => intro k hk0 hk1 hm9; exact absurd hm9 (by omega)
    | succ m9 ih2 =>
      intro k hk0 hk1 hm9
      refine q_iload_n dX12_copyShed_2 rfl ?_
      refine q_bipush dX12_copyShed_3 ?_
      refine q_icmp_ge (tgt := 30) dX12_copyShed_5 (by decide) ⟨by omega, by omega⟩ ⟨by decide, by decide⟩ (fun h5 => ?_) (fun h5 => ?_)
      · skip
        exact q_vret rfl dX12_copyShed_30 (⟨rfl, by rw [show k = 38 by omega]⟩)
      · skip
        refine q_aload_n dX12_copyShed_8 rfl ?_
        refine q_get (v := .ref 65) fX12_7_12 rfl rfl dX12_copyShed_9 ?_
        refine q_iload_n dX12_copyShed_12 rfl ?_
        refine q_iload_n dX12_copyShed_13 rfl ?_
        refine q_iadd dX12_copyShed_14 ?_
        refine q_aload_n dX12_copyShed_15 rfl ?_
        refine q_get (v := .ref 65) fX12_7_12 rfl rfl dX12_copyShed_16 ?_
        refine q_iload_n dX12_copyShed_19 rfl ?_
        refine q_iload_n dX12_copyShed_20 rfl ?_
        refine q_iadd dX12_copyShed_21 ?_
        refine q_iald (f := (q_cpy (μ 0) (μ 0) a b k)) (n9 := 152) rfl (by omega) (by omega) dX12_copyShed_22 ?_
        refine q_iast (f := (q_cpy (μ 0) (μ 0) a b k)) (n9 := 152) rfl (by omega) (by omega) dX12_copyShed_23 ?_
        rw [m_a0]
        refine q_iinc (lv' := [some (.ref 64), some (q_i a), some (q_i b), some (q_i (k + 1))]) dX12_copyShed_24 rfl (by decide) rfl ?_
        refine q_goto (tgt := 2) dX12_copyShed_27 (by decide) ?_
        exact q_Jle (q_le_s (rfl) (q_le_s (rfl) (q_le_s (rfl) (q_le_s (rfl) (q_le_e _))))) (rfl) (by rw [m_uu, q_cpy_f (μ 0) hk0 (by omega)]) (ih2 (k + 1) (by omega) (by omega) (by omega))
  exact q_Jle (q_le_s (rfl) (q_le_s (rfl) (q_le_s (rfl) (q_le_s (rfl) (q_le_e _))))) (rfl) (by rw [q_cpy_0]; exact (congrArg (m_w w) (m_uid _ 0)).symm) (L2 ((38 : Int).toNat + 1) 0 (by omega) (by omega) (by omega))
def m_keep_v (μ : m_S) (k : Int) : Int := if ¬ (0 ≤ k ∧ k ≤ 2) then -1 else if μ 4 0 = 0 then -4 else μ 0 0
def m_keep_s (μ : m_S) (k : Int) : m_S := if ¬ (0 ≤ k ∧ k ≤ 2) then μ else if μ 4 0 = 0 then μ else m_u μ 0 (q_cpy (μ 0) (μ 0) 0 (38 * (1 + k)) 38)
/-- the shed that is kept at k -/
def m_kp (μ : m_S) (k : Int) : m_S := m_u μ 0 (fun j => μ 0 (38 * (1 + k) + j))
def m_Ke (μ : m_S) : Prop := ∀ k, 0 ≤ k → k ≤ 2 → μ 0 (38 * (1 + k)) = -1 ∨ (0 ≤ μ 0 (38 * (1 + k)) ∧ m_G (m_kp μ k) ∧ m_De (m_kp μ k))
theorem m_ker {μ : m_S} {k : Int} (h : μ 0 (38 * (1 + k)) = -1 ∨ (0 ≤ μ 0 (38 * (1 + k)) ∧ m_G (m_kp μ k) ∧ m_De (m_kp μ k))) : q_r (μ 0 (38 * (1 + k))) := by
  rcases h with h | h
  · rw [h]; exact ⟨by decide, by decide⟩
  · have h2 : 0 ≤ μ 0 (38 * (1 + k) + 0) ∧ μ 0 (38 * (1 + k) + 0) ≤ 16 := h.2.2.1
    rw [Int.add_zero] at h2
    exact ⟨by omega, by omega⟩
def m_onr (μ : m_S) (k : Int) : Int → Int := q_cpy (μ 0) (μ 0) (38 * (1 + k)) 0 38
def m_on_v (μ : m_S) (k : Int) : Int := if ¬ (0 ≤ k ∧ k ≤ 2) then -1 else if μ 0 (38 * (1 + k)) < 0 then -3 else μ 0 (38 * (1 + k))
def m_on_s (μ : m_S) (k : Int) : m_S := if ¬ (0 ≤ k ∧ k ≤ 2) then μ else if μ 0 (38 * (1 + k)) < 0 then m_find μ 1 else m_lw (m_u μ 0 (m_onr μ k))
theorem m_onr_i (μ : m_S) (k : Int) {j : Int} (h0 : 0 ≤ j) (h1 : j < 38) : m_onr μ k j = μ 0 (38 * (1 + k) + j) := by
  unfold m_onr
  rw [q_cpy_i _ _ h0 (by omega), Int.sub_zero]
theorem m_on_G {μ : m_S} {k : Int} (h : m_G (m_kp μ k)) : m_G (m_u μ 0 (m_onr μ k)) := by
  refine ⟨h.1, h.2.1, h.2.2.1, h.2.2.2.1, fun p h0 h1 => ?_⟩
  have h2 := h.2.2.2.2 p h0 h1
  have h3 : 1 ≤ μ 4 0 ∧ μ 4 0 ≤ 5 := h.2.2.2.1
  have h1' : p < μ 4 0 := h1
  show 0 ≤ μ 5 p ∧ μ 5 p ≤ 5 ∧ 1 ≤ m_onr μ k (1 + p) ∧ m_onr μ k (1 + p) ≤ 3
  rw [m_onr_i μ k (by omega) (by omega)]
  exact h2
theorem m_on_D {μ : m_S} {k : Int} (h : m_De (m_kp μ k)) : m_De (m_u μ 0 (m_onr μ k)) := by
  have h0 : 0 ≤ μ 0 (38 * (1 + k) + 0) ∧ μ 0 (38 * (1 + k) + 0) ≤ 16 := h.1
  have e0 := m_onr_i μ k (j := 0) (by omega) (by omega)
  refine m_De_row (by rw [e0]; exact h0) (fun d hd0 hd1 => ?_)
  rw [e0] at hd1
  rw [m_onr_i μ k (by omega) (by omega), m_onr_i μ k (by omega) (by omega)]
  exact h.2 d hd0 hd1
set_option maxRecDepth 20000 in
theorem tX12_keep (w : q_W) (μ : m_S) (k : Int) (hk : q_r k) (hH : m_Sh μ) : q_D mX12_keep 1 [.ref 64, q_i k] (m_w w μ) (some (q_i (m_keep_v μ k))) (m_w w (m_keep_s μ k)) := by
  refine q_T.of (lv := [some (.ref 64), some (q_i k)]) (by decide) rfl (Nat.le_of_ble_eq_true rfl) ?_
  have hb := hH.b
  refine q_iload_n dX12_keep_0 rfl ?_
  refine q_i2lr dX12_keep_1 hk ?_
  refine q_lconst 0 dX12_keep_2 ?_
  refine q_ldc2 2 wd_1303 dX12_keep_3 ?_
  refine q_cS [q_l k, q_l 0, q_l 2] kX12_57 (tX12_in k 0 2 (⟨by have := (hk).1; omega, by have := (hk).2; omega⟩) (⟨by decide, by decide⟩) (⟨by decide, by decide⟩) (m_w w μ)) dX12_keep_6 rfl (by decide) (Nat.le_of_ble_eq_true rfl) rfl ?_
  refine q_ifb_ne (tgt := 14) dX12_keep_9 (by decide) (fun h9 => ?_) (fun h9 => ?_)
  · skip
    refine q_aload_n dX12_keep_14 rfl ?_
    refine q_get (v := q_i (μ 4 0)) fX12_142_12 rfl rfl dX12_keep_15 ?_
    refine q_if_ne (tgt := 24) dX12_keep_18 (by decide) ⟨by omega, by omega⟩ (fun h18 => ?_) (fun h18 => ?_)
    · skip
      refine q_aload_n dX12_keep_24 rfl ?_
      refine q_iconst dX12_keep_25 ?_
      refine q_bipush dX12_keep_26 ?_
      refine q_iconst dX12_keep_28 ?_
      refine q_iload_n dX12_keep_29 rfl ?_
      refine q_iadd dX12_keep_30 ?_
      refine q_imul dX12_keep_31 ?_
      refine q_cVv [q_i 0, q_i (38 * (1 + k))] kX12_213_12 rfl (tX12_copyShed w μ 0 (38 * (1 + k)) (by omega) (by omega) (by omega) (by omega) (by omega)) dX12_keep_32 rfl (by decide) (Nat.le_of_ble_eq_true rfl) rfl ?_
      refine q_aload_n dX12_keep_35 rfl ?_
      refine q_get (v := .ref 65) fX12_7_12 rfl rfl dX12_keep_36 ?_
      refine q_iconst dX12_keep_39 ?_
      refine q_iald (f := (q_cpy (μ 0) (μ 0) 0 (38 * (1 + k)) 38)) (n9 := 152) rfl (by omega) (by omega) dX12_keep_40 ?_
      rw [q_cpy_o _ _ (by omega)]
      exact q_iret rfl dX12_keep_41 (⟨by (unfold m_keep_v; (repeat' split) <;> first | rfl | (exfalso; omega)), by (unfold m_keep_s; (repeat' split) <;> first | rfl | (exfalso; omega))⟩)
    · skip
      refine q_bipush dX12_keep_21 ?_
      exact q_iret rfl dX12_keep_23 (⟨by (unfold m_keep_v; (repeat' split) <;> first | rfl | (exfalso; omega)), by (unfold m_keep_s; (repeat' split) <;> first | rfl | (exfalso; omega))⟩)
  · skip
    refine q_iconst dX12_keep_12 ?_
    exact q_iret rfl dX12_keep_13 (⟨by (unfold m_keep_v; (repeat' split) <;> first | rfl | (exfalso; omega)), by (unfold m_keep_s; (repeat' split) <;> first | rfl | (exfalso; omega))⟩)
set_option maxRecDepth 20000 in
theorem tX12_on (w : q_W) (μ : m_S) (k : Int) (hk : q_r k) (hH : m_Sh μ) (hK : m_Ke μ) : q_D mX12_on 7 [.ref 64, q_i k] (m_w w μ) (some (q_i (m_on_v μ k))) (m_w w (m_on_s μ k)) := by
  refine q_T.of (lv := [some (.ref 64), some (q_i k)]) (by decide) rfl (Nat.le_of_ble_eq_true rfl) ?_
  have hb := hH.b
  refine q_iload_n dX12_on_0 rfl ?_
  refine q_i2lr dX12_on_1 hk ?_
  refine q_lconst 0 dX12_on_2 ?_
  refine q_ldc2 2 wd_1303 dX12_on_3 ?_
  refine q_cS [q_l k, q_l 0, q_l 2] kX12_57 (tX12_in k 0 2 (⟨by have := (hk).1; omega, by have := (hk).2; omega⟩) (⟨by decide, by decide⟩) (⟨by decide, by decide⟩) (m_w w μ)) dX12_on_6 rfl (by decide) (Nat.le_of_ble_eq_true rfl) rfl ?_
  refine q_ifb_ne (tgt := 14) dX12_on_9 (by decide) (fun h9 => ?_) (fun h9 => ?_)
  · skip
    have hkk0 := hK k (by omega) (by omega)
    have hkr : q_r (μ 0 (38 * (1 + k))) := m_ker hkk0
    refine q_aload_n dX12_on_14 rfl ?_
    refine q_get (v := .ref 65) fX12_7_12 rfl rfl dX12_on_15 ?_
    refine q_bipush dX12_on_18 ?_
    refine q_iconst dX12_on_20 ?_
    refine q_iload_n dX12_on_21 rfl ?_
    refine q_iadd dX12_on_22 ?_
    refine q_imul dX12_on_23 ?_
    refine q_iconst dX12_on_24 ?_
    refine q_iadd dX12_on_25 ?_
    refine q_iald (f := (μ 0)) (n9 := 152) rfl (by omega) (by omega) dX12_on_26 ?_
    rw [Int.add_zero]
    refine q_if_ge (tgt := 36) dX12_on_27 (by decide) hkr (fun h27 => ?_) (fun h27 => ?_)
    · skip
      have hkk : 0 ≤ μ 0 (38 * (1 + k)) ∧ m_G (m_kp μ k) ∧ m_De (m_kp μ k) := by
        rcases hkk0 with h | h
        · omega
        · exact h
      refine q_aload_n dX12_on_36 rfl ?_
      refine q_bipush dX12_on_37 ?_
      refine q_iconst dX12_on_39 ?_
      refine q_iload_n dX12_on_40 rfl ?_
      refine q_iadd dX12_on_41 ?_
      refine q_imul dX12_on_42 ?_
      refine q_iconst dX12_on_43 ?_
      refine q_cVv [q_i (38 * (1 + k)), q_i 0] kX12_213_12 rfl (tX12_copyShed w μ (38 * (1 + k)) 0 (by omega) (by omega) (by omega) (by omega) (by omega)) dX12_on_44 rfl (by decide) (Nat.le_of_ble_eq_true rfl) rfl ?_
      refine q_aload_n dX12_on_47 rfl ?_
      refine q_cVv [] kX12_145_12 rfl (tX12_layWeights w (m_u μ 0 (m_onr μ k)) (Or.inr (m_on_G hkk.2.1)) (m_on_D hkk.2.2)) dX12_on_48 rfl (by decide) (Nat.le_of_ble_eq_true rfl) rfl ?_
      refine q_aload_n dX12_on_51 rfl ?_
      refine q_get (v := .ref 65) fX12_7_12 rfl rfl dX12_on_52 ?_
      refine q_iconst dX12_on_55 ?_
      refine q_iald (f := (m_onr μ k)) (n9 := 152) rfl (by omega) (by omega) dX12_on_56 ?_
      rw [m_onr_i μ k (by omega) (by omega), Int.add_zero]
      exact q_iret rfl dX12_on_57 (⟨by (unfold m_on_v; (repeat' split) <;> first | rfl | (exfalso; omega)), by (unfold m_on_s; (repeat' split) <;> first | rfl | (exfalso; omega))⟩)
    · skip
      refine q_aload_n dX12_on_30 rfl ?_
      refine q_iconst dX12_on_31 ?_
      refine q_cV [q_i 1] kX12_67_12 rfl (tX12_find w μ 1 (by decide) (by decide)) dX12_on_32 rfl (by decide) (Nat.le_of_ble_eq_true rfl) rfl ?_
      exact q_iret rfl dX12_on_35 (⟨by (unfold m_on_v; (repeat' split) <;> first | rfl | (exfalso; omega)), by (unfold m_on_s; (repeat' split) <;> first | rfl | (exfalso; omega))⟩)
  · skip
    refine q_iconst dX12_on_12 ?_
    exact q_iret rfl dX12_on_13 (⟨by (unfold m_on_v; (repeat' split) <;> first | rfl | (exfalso; omega)), by (unfold m_on_s; (repeat' split) <;> first | rfl | (exfalso; omega))⟩)
