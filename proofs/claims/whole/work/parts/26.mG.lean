/-! the reference: looks to come, who, apart -/
def m_ways (μ : m_S) (p c s : Int) : Int := z_ways (μ 5 p) (μ 0 (1 + p)) (μ 1 0) (μ 2 0) c s
def m_inall (μ : m_S) (p : Int) : Int := z_in (μ 5 p) (μ 0 (1 + p)) (μ 1 0) (μ 3 0)
theorem m_ways_r {μ : m_S} (hG : m_G μ) (p c s : Int) : 0 ≤ m_ways μ p c s ∧ m_ways μ p c s ≤ 4 := z_ways_r c s hG.1
theorem m_inall_r {μ : m_S} (hG : m_G μ) {p : Int} (h0 : 0 ≤ p) (h1 : p < μ 4 0) : 1 ≤ m_inall μ p ∧ m_inall μ p ≤ 216 := by
  have h := hG.2.2.2.2 p h0 h1
  exact z_in_r ⟨h.2.2.1, h.2.2.2⟩ hG.1 hG.S
def m_ways_v (μ : m_S) (p c s : Int) : Int := if ¬ (0 ≤ p ∧ p ≤ μ 4 0 - 1) then -1 else if ¬ (0 ≤ c ∧ c ≤ μ 3 0 - 1) then -1 else if ¬ (0 ≤ s ∧ s ≤ μ 3 0 - 1) then -1 else m_ways μ p c s
set_option maxRecDepth 20000 in
theorem tX12_ways (w : q_W) (μ : m_S) (p c s : Int) (hp : q_r p) (hc : q_r c) (hs : q_r s) (hH : m_Sh μ) : q_D mX12_ways 5 [.ref 64, q_i p, q_i c, q_i s] (m_w w μ) (some (q_i (m_ways_v μ p c s))) (m_w w μ) := by
  refine q_T.of (lv := [some (.ref 64), some (q_i p), some (q_i c), some (q_i s)]) (by decide) rfl (Nat.le_of_ble_eq_true rfl) ?_
  have hb := hH.b
  refine q_aload_n dX12_ways_0 rfl ?_
  refine q_iload_n dX12_ways_1 rfl ?_
  refine q_cV [q_i p] kX12_183_12 rfl (tX12_isPerson w μ p (hp) (by omega) (by omega)) dX12_ways_2 rfl (by decide) (Nat.le_of_ble_eq_true rfl) rfl ?_
  refine q_ifb_eq (tgt := 34) dX12_ways_5 (by decide) (fun h5 => ?_) (fun h5 => ?_)
  · skip
    refine q_iconst dX12_ways_34 ?_
    exact q_iret rfl dX12_ways_35 (⟨by (unfold m_ways_v; (repeat' split) <;> first | rfl | (exfalso; omega)), rfl⟩)
  · skip
    refine q_aload_n dX12_ways_8 rfl ?_
    refine q_iload_n dX12_ways_9 rfl ?_
    refine q_cV [q_i c] kX12_205_12 rfl (tX12_isSetting w μ c (hc) (by omega) (by omega)) dX12_ways_10 rfl (by decide) (Nat.le_of_ble_eq_true rfl) rfl ?_
    refine q_ifb_eq (tgt := 34) dX12_ways_13 (by decide) (fun h13 => ?_) (fun h13 => ?_)
    · skip
      refine q_iconst dX12_ways_34 ?_
      exact q_iret rfl dX12_ways_35 (⟨by (unfold m_ways_v; (repeat' split) <;> first | rfl | (exfalso; omega)), rfl⟩)
    · skip
      refine q_aload_n dX12_ways_16 rfl ?_
      refine q_iload_n dX12_ways_17 rfl ?_
      refine q_cV [q_i s] kX12_205_12 rfl (tX12_isSetting w μ s (hs) (by omega) (by omega)) dX12_ways_18 rfl (by decide) (Nat.le_of_ble_eq_true rfl) rfl ?_
      refine q_ifb_eq (tgt := 34) dX12_ways_21 (by decide) (fun h21 => ?_) (fun h21 => ?_)
      · skip
        refine q_iconst dX12_ways_34 ?_
        exact q_iret rfl dX12_ways_35 (⟨by (unfold m_ways_v; (repeat' split) <;> first | rfl | (exfalso; omega)), rfl⟩)
      · skip
        have hG := hH.g (by omega)
        refine q_aload_n dX12_ways_24 rfl ?_
        refine q_iload_n dX12_ways_25 rfl ?_
        refine q_iload_n dX12_ways_26 rfl ?_
        refine q_iload_n dX12_ways_27 rfl ?_
        refine q_cV [q_i p, q_i c, q_i s] kX12_170_12 rfl (tX12_waysOf w μ p c s (by omega) (by omega) (by omega) (by omega) (by omega) (by omega) hG) dX12_ways_28 rfl (by decide) (Nat.le_of_ble_eq_true rfl) rfl ?_
        show q_J _ _ _ _ _ _ _ [q_i (m_ways μ p c s)] (m_w w μ)
        refine q_goto (tgt := 35) dX12_ways_31 (by decide) ?_
        exact q_iret rfl dX12_ways_35 (⟨by (unfold m_ways_v; (repeat' split) <;> first | rfl | (exfalso; omega)), rfl⟩)
def z_far (W N c s : Int) : Int := z_sum (fun w => if z_up W N w c s < N - z_up W N w c s then z_up W N w c s else N - z_up W N w c s) W
def z_dif (W N c s : Int) : Int := z_sum (fun w => if z_up W N w c s = 0 then 0 else 1) W
set_option maxRecDepth 20000 in
theorem tX12_far (w : q_W) (μ : m_S) (c s : Int) (hc0 : 0 ≤ c) (hc1 : c < μ 3 0) (hs0 : 0 ≤ s) (hs1 : s < μ 3 0) (hG : m_G μ) : q_D mX12_far 3 [.ref 64, q_i c, q_i s] (m_w w μ) (some (q_i (z_far (μ 1 0) (μ 2 0) c s))) (m_w w μ) := by
  refine q_T.of (lv := [some (.ref 64), some (q_i c), some (q_i s), none, none, none]) (by decide) rfl (Nat.le_of_ble_eq_true rfl) ?_
  have hW := hG.1
  have hN := hG.2.1
  have hS := hG.S
  have hPn := hG.2.2.2.1
  refine q_iconst dX12_far_0 ?_
  refine q_istore_n (lv' := [some (.ref 64), some (q_i c), some (q_i s), some (q_i 0), none, none]) dX12_far_1 (by decide) rfl ?_
  refine q_iconst dX12_far_2 ?_
  refine q_istore (lv' := [some (.ref 64), some (q_i c), some (q_i s), some (q_i 0), some (q_i 0), none]) dX12_far_3 (by decide) rfl ?_
  have L5 : ∀ (m9 : Nat) (k : Int) (hk0 : 0 ≤ k) (hk1 : k ≤ μ 1 0) (hm9 : μ 1 0 - k < (m9 : Int)), q_J mX12_far 3 (fun v' w' => v' = (some (q_i (z_far (μ 1 0) (μ 2 0) c s))) ∧ w' = (m_w w μ)) 0 0 5 [some (.ref 64), some (q_i c), some (q_i s), some (q_i (z_sum (fun w => if z_up (μ 1 0) (μ 2 0) w c s < (μ 2 0) - z_up (μ 1 0) (μ 2 0) w c s then z_up (μ 1 0) (μ 2 0) w c s else (μ 2 0) - z_up (μ 1 0) (μ 2 0) w c s) k)), some (q_i k), none] [] (m_w w μ) := by
    intro m9
    induction m9 with
    | zero => intro k hk0 hk1 hm9; exact absurd hm9 (by omega)
    | succ m9 ih5 =>
      intro k hk0 hk1 hm9
      refine q_iload dX12_far_5 rfl ?_
      refine q_aload_n dX12_far_7 rfl ?_
      refine q_get (v := q_i (μ 1 0)) fX12_130_12 rfl rfl dX12_far_8 ?_
      refine q_icmp_ge (tgt := 57) dX12_far_11 (by decide) ⟨by omega, by omega⟩ ⟨by omega, by omega⟩ (fun h11 => ?_) (fun h11 => ?_)
      · skip
        refine q_iload_n dX12_far_57 rfl ?_
        exact q_iret rfl dX12_far_58 (⟨by rw [show k = μ 1 0 by omega]; rfl, rfl⟩)
      · skip
        have hur := z_up_r (c := c) (s := s) (w := k) hW.2 hN hc0 hs0 hk0 (by omega)
        refine q_aload_n dX12_far_14 rfl ?_
        refine q_iload dX12_far_15 rfl ?_
        refine q_iload_n dX12_far_17 rfl ?_
        refine q_iload_n dX12_far_18 rfl ?_
        refine q_cV [q_i k, q_i c, q_i s] kX12_157_12 rfl (tX12_up w μ k c s (by omega) (by omega) (by omega) (by omega) (by omega) (by omega) hG) dX12_far_19 rfl (by decide) (Nat.le_of_ble_eq_true rfl) rfl ?_
        refine q_istore (lv' := [some (.ref 64), some (q_i c), some (q_i s), some (q_i (z_sum (fun w => if z_up (μ 1 0) (μ 2 0) w c s < (μ 2 0) - z_up (μ 1 0) (μ 2 0) w c s then z_up (μ 1 0) (μ 2 0) w c s else (μ 2 0) - z_up (μ 1 0) (μ 2 0) w c s) k)), some (q_i k), some (q_i (z_up (μ 1 0) (μ 2 0) k c s))]) dX12_far_22 (by decide) rfl ?_
        refine q_iload_n dX12_far_24 rfl ?_
        refine q_iload dX12_far_25 rfl ?_
        refine q_aload_n dX12_far_27 rfl ?_
        refine q_get (v := q_i (μ 2 0)) fX12_133_12 rfl rfl dX12_far_28 ?_
        refine q_iload dX12_far_31 rfl ?_
        refine q_isub dX12_far_33 ?_
        refine q_icmp_ge (tgt := 42) dX12_far_34 (by decide) ⟨by omega, by omega⟩ ⟨by omega, by omega⟩ (fun h34 => ?_) (fun h34 => ?_)
        · skip
          refine q_aload_n dX12_far_42 rfl ?_
          refine q_get (v := q_i (μ 2 0)) fX12_133_12 rfl rfl dX12_far_43 ?_
          refine q_iload dX12_far_46 rfl ?_
          refine q_isub dX12_far_48 ?_
          refine q_iadd dX12_far_49 ?_
          refine q_istore_n (lv' := [some (.ref 64), some (q_i c), some (q_i s), some (q_i ((z_sum (fun w => if z_up (μ 1 0) (μ 2 0) w c s < (μ 2 0) - z_up (μ 1 0) (μ 2 0) w c s then z_up (μ 1 0) (μ 2 0) w c s else (μ 2 0) - z_up (μ 1 0) (μ 2 0) w c s) k) + ((μ 2 0) - (z_up (μ 1 0) (μ 2 0) k c s)))), some (q_i k), some (q_i (z_up (μ 1 0) (μ 2 0) k c s))]) dX12_far_50 (by decide) rfl ?_
          refine q_iinc (lv' := [some (.ref 64), some (q_i c), some (q_i s), some (q_i ((z_sum (fun w => if z_up (μ 1 0) (μ 2 0) w c s < (μ 2 0) - z_up (μ 1 0) (μ 2 0) w c s then z_up (μ 1 0) (μ 2 0) w c s else (μ 2 0) - z_up (μ 1 0) (μ 2 0) w c s) k) + ((μ 2 0) - (z_up (μ 1 0) (μ 2 0) k c s)))), some (q_i (k + 1)), some (q_i (z_up (μ 1 0) (μ 2 0) k c s))]) dX12_far_51 rfl (by decide) rfl ?_
          refine q_goto (tgt := 5) dX12_far_54 (by decide) ?_
          exact q_Jle (q_le_s (rfl) (q_le_s (rfl) (q_le_s (rfl) (q_le_s (by rw [z_sum_s _ hk0]; (try dsimp only); (repeat' split) <;> first | rfl | (exfalso; omega)) (q_le_s (rfl) (q_le_n (q_le_e _))))))) (rfl) (rfl) (ih5 (k + 1) (by omega) (by omega) (by omega))
        · skip
          refine q_iload dX12_far_37 rfl ?_
          refine q_goto (tgt := 49) dX12_far_39 (by decide) ?_
          refine q_iadd dX12_far_49 ?_
          refine q_istore_n (lv' := [some (.ref 64), some (q_i c), some (q_i s), some (q_i ((z_sum (fun w => if z_up (μ 1 0) (μ 2 0) w c s < (μ 2 0) - z_up (μ 1 0) (μ 2 0) w c s then z_up (μ 1 0) (μ 2 0) w c s else (μ 2 0) - z_up (μ 1 0) (μ 2 0) w c s) k) + (z_up (μ 1 0) (μ 2 0) k c s))), some (q_i k), some (q_i (z_up (μ 1 0) (μ 2 0) k c s))]) dX12_far_50 (by decide) rfl ?_
          refine q_iinc (lv' := [some (.ref 64), some (q_i c), some (q_i s), some (q_i ((z_sum (fun w => if z_up (μ 1 0) (μ 2 0) w c s < (μ 2 0) - z_up (μ 1 0) (μ 2 0) w c s then z_up (μ 1 0) (μ 2 0) w c s else (μ 2 0) - z_up (μ 1 0) (μ 2 0) w c s) k) + (z_up (μ 1 0) (μ 2 0) k c s))), some (q_i (k + 1)), some (q_i (z_up (μ 1 0) (μ 2 0) k c s))]) dX12_far_51 rfl (by decide) rfl ?_
          refine q_goto (tgt := 5) dX12_far_54 (by decide) ?_
          exact q_Jle (q_le_s (rfl) (q_le_s (rfl) (q_le_s (rfl) (q_le_s (by rw [z_sum_s _ hk0]; (try dsimp only); (repeat' split) <;> first | rfl | (exfalso; omega)) (q_le_s (rfl) (q_le_n (q_le_e _))))))) (rfl) (rfl) (ih5 (k + 1) (by omega) (by omega) (by omega))
  exact q_Jle (q_le_s (rfl) (q_le_s (rfl) (q_le_s (rfl) (q_le_s (rfl) (q_le_s (rfl) (q_le_n (q_le_e _))))))) (rfl) (rfl) (L5 ((μ 1 0 : Int).toNat + 1) 0 (by omega) (by omega) (by omega))
theorem z_far_r {W N c s : Int} (hW : 1 ≤ W ∧ W ≤ 3) (hN : 4 ≤ N ∧ N ≤ 6) (hc : 0 ≤ c) (hs : 0 ≤ s) : 0 ≤ z_far W N c s ∧ z_far W N c s ≤ 18 := by
  have h := z_sum_b (fun w => if z_up W N w c s < N - z_up W N w c s then z_up W N w c s else N - z_up W N w c s) 0 6 (n := W) (by omega) (fun j h0 h1 => by
    have h2 := z_up_r (c := c) (s := s) (w := j) hW.2 hN hc hs h0 h1
    (try dsimp only)
    split <;> omega)
  unfold z_far
  omega
def m_apart_v (μ : m_S) (c s : Int) : Int := if ¬ (0 ≤ c ∧ c ≤ μ 3 0 - 1) then -1 else if ¬ (0 ≤ s ∧ s ≤ μ 3 0 - 1) then -1 else z_far (μ 1 0) (μ 2 0) c s
def m_apart_s (μ : m_S) (c s : Int) : m_S := if ¬ (0 ≤ c ∧ c ≤ μ 3 0 - 1) then μ else if ¬ (0 ≤ s ∧ s ≤ μ 3 0 - 1) then μ else m_u μ 11 (fun _ => z_dif (μ 1 0) (μ 2 0) c s)
def m_near_v (μ : m_S) (c n : Int) : Int := if ¬ (0 ≤ c ∧ c ≤ μ 3 0 - 1) then -1 else if ¬ (0 ≤ n ∧ n ≤ 9) then -1 else z_sum (fun s => if z_far (μ 1 0) (μ 2 0) c s ≤ n then 1 else 0) (μ 3 0)
set_option maxRecDepth 20000 in
theorem tX12_apart (w : q_W) (μ : m_S) (c s : Int) (hc : q_r c) (hs : q_r s) (hH : m_Sh μ) : q_D mX12_apart 4 [.ref 64, q_i c, q_i s] (m_w w μ) (some (q_i (m_apart_v μ c s))) (m_w w (m_apart_s μ c s)) := by
  refine q_T.of (lv := [some (.ref 64), some (q_i c), some (q_i s), none]) (by decide) rfl (Nat.le_of_ble_eq_true rfl) ?_
  have hb := hH.b
  refine q_aload_n dX12_apart_0 rfl ?_
  refine q_iload_n dX12_apart_1 rfl ?_
  refine q_cV [q_i c] kX12_205_12 rfl (tX12_isSetting w μ c (hc) (by omega) (by omega)) dX12_apart_2 rfl (by decide) (Nat.le_of_ble_eq_true rfl) rfl ?_
  refine q_ifb_eq (tgt := 16) dX12_apart_5 (by decide) (fun h5 => ?_) (fun h5 => ?_)
  · skip
    refine q_iconst dX12_apart_16 ?_
    exact q_iret rfl dX12_apart_17 (⟨by (unfold m_apart_v; (repeat' split) <;> first | rfl | (exfalso; omega)), by (unfold m_apart_s; (repeat' split) <;> first | rfl | (exfalso; omega))⟩)
  · skip
    refine q_aload_n dX12_apart_8 rfl ?_
    refine q_iload_n dX12_apart_9 rfl ?_
    refine q_cV [q_i s] kX12_205_12 rfl (tX12_isSetting w μ s (hs) (by omega) (by omega)) dX12_apart_10 rfl (by decide) (Nat.le_of_ble_eq_true rfl) rfl ?_
    refine q_ifb_ne (tgt := 18) dX12_apart_13 (by decide) (fun h13 => ?_) (fun h13 => ?_)
    · skip
      have hG := hH.g (by omega)
      have hW := hG.1
      have hN := hG.2.1
      refine q_aload_n dX12_apart_18 rfl ?_
      refine q_iconst dX12_apart_19 ?_
      refine q_puti (fs := m_o μ) pX12_52_12 rfl (Nat.le_of_ble_eq_true rfl) dX12_apart_20 ?_
      rw [m_p11]
      refine q_iconst dX12_apart_23 ?_
      refine q_istore_n (lv' := [some (.ref 64), some (q_i c), some (q_i s), some (q_i 0)]) dX12_apart_24 (by decide) rfl ?_
      have L25 : ∀ (m9 : Nat) (k : Int) (hk0 : 0 ≤ k) (hk1 : k ≤ μ 1 0) (hm9 : μ 1 0 - k < (m9 : Int)), q_J mX12_apart 4 (fun v' w' => v' = (some (q_i (m_apart_v μ c s))) ∧ w' = (m_w w (m_apart_s μ c s))) 0 0 25 [some (.ref 64), some (q_i c), some (q_i s), some (q_i k)] [] (m_w w (m_u μ 11 (fun _ => z_sum (fun w => if z_up (μ 1 0) (μ 2 0) w c s = 0 then 0 else 1) k))) := by
        intro m9
        induction m9 with
        | zero => intro k hk0 hk1 hm9; exact absurd hm9 (by omega)
        | succ m9 ih25 =>
          intro k hk0 hk1 hm9
          refine q_iload_n dX12_apart_25 rfl ?_
          refine q_aload_n dX12_apart_26 rfl ?_
          refine q_get (v := q_i (μ 1 0)) fX12_130_12 rfl rfl dX12_apart_27 ?_
          refine q_icmp_ge (tgt := 63) dX12_apart_30 (by decide) ⟨by omega, by omega⟩ ⟨by omega, by omega⟩ (fun h30 => ?_) (fun h30 => ?_)
          · skip
            refine q_aload_n dX12_apart_63 rfl ?_
            refine q_iload_n dX12_apart_64 rfl ?_
            refine q_iload_n dX12_apart_65 rfl ?_
            refine q_cV [q_i c, q_i s] kX12_248_12 rfl (tX12_far w (m_u μ 11 (fun _ => z_sum (fun w => if z_up (μ 1 0) (μ 2 0) w c s = 0 then 0 else 1) k)) c s (show (0 : Int) ≤ c by omega) (show c < μ 3 0 by omega) (show (0 : Int) ≤ s by omega) (show s < μ 3 0 by omega) hG) dX12_apart_66 rfl (by decide) (Nat.le_of_ble_eq_true rfl) rfl ?_
            show q_J _ _ _ _ _ _ _ [q_i (z_far (μ 1 0) (μ 2 0) c s)] (m_w w (m_u μ 11 (fun _ => z_sum (fun w => if z_up (μ 1 0) (μ 2 0) w c s = 0 then 0 else 1) k)))
            exact q_iret rfl dX12_apart_69 (⟨by (unfold m_apart_v; (repeat' split) <;> first | rfl | (exfalso; omega)), by rw [show k = μ 1 0 by omega]; unfold m_apart_s; (repeat' split) <;> first | rfl | (exfalso; omega)⟩)
          · skip
            have hur := z_up_r (c := c) (s := s) (w := k) hW.2 hN (by omega) (by omega) hk0 (by omega)
            refine q_aload_n dX12_apart_33 rfl ?_
            refine q_dup dX12_apart_34 rfl ?_
            refine q_get (v := q_i (z_sum (fun w => if z_up (μ 1 0) (μ 2 0) w c s = 0 then 0 else 1) k)) fX12_52_12 rfl rfl dX12_apart_35 ?_
            refine q_aload_n dX12_apart_38 rfl ?_
            refine q_iload_n dX12_apart_39 rfl ?_
            refine q_iload_n dX12_apart_40 rfl ?_
            refine q_iload_n dX12_apart_41 rfl ?_
            refine q_cV [q_i k, q_i c, q_i s] kX12_157_12 rfl (tX12_up w (m_u μ 11 (fun _ => z_sum (fun w => if z_up (μ 1 0) (μ 2 0) w c s = 0 then 0 else 1) k)) k c s (show (0 : Int) ≤ k by omega) (show k < μ 1 0 by omega) (show (0 : Int) ≤ c by omega) (show c < μ 3 0 by omega) (show (0 : Int) ≤ s by omega) (show s < μ 3 0 by omega) hG) dX12_apart_42 rfl (by decide) (Nat.le_of_ble_eq_true rfl) rfl ?_
            show q_J _ _ _ _ _ _ _ [q_i (z_up (μ 1 0) (μ 2 0) k c s), q_i (z_sum (fun w => if z_up (μ 1 0) (μ 2 0) w c s = 0 then 0 else 1) k), .ref 64] (m_w w (m_u μ 11 (fun _ => z_sum (fun w => if z_up (μ 1 0) (μ 2 0) w c s = 0 then 0 else 1) k)))
            refine q_if_ne (tgt := 52) dX12_apart_45 (by decide) ⟨by omega, by omega⟩ (fun h45 => ?_) (fun h45 => ?_)
            · skip
              refine q_iconst dX12_apart_52 ?_
              refine q_iadd dX12_apart_53 ?_
              refine q_puti (fs := m_o (m_u μ 11 (fun _ => z_sum (fun w => if z_up (μ 1 0) (μ 2 0) w c s = 0 then 0 else 1) k))) pX12_52_12 rfl (Nat.le_of_ble_eq_true rfl) dX12_apart_54 ?_
              rw [m_p11]
              refine q_iinc (lv' := [some (.ref 64), some (q_i c), some (q_i s), some (q_i (k + 1))]) dX12_apart_57 rfl (by decide) rfl ?_
              refine q_goto (tgt := 25) dX12_apart_60 (by decide) ?_
              exact q_Jle (q_le_s (rfl) (q_le_s (rfl) (q_le_s (rfl) (q_le_s (rfl) (q_le_e _))))) (rfl) (by rw [m_uu, z_sum_s _ hk0]; (try dsimp only); (repeat' split) <;> first | rfl | (exfalso; omega)) (ih25 (k + 1) (by omega) (by omega) (by omega))
            · skip
              refine q_iconst dX12_apart_48 ?_
              refine q_goto (tgt := 53) dX12_apart_49 (by decide) ?_
              refine q_iadd dX12_apart_53 ?_
              refine q_puti (fs := m_o (m_u μ 11 (fun _ => z_sum (fun w => if z_up (μ 1 0) (μ 2 0) w c s = 0 then 0 else 1) k))) pX12_52_12 rfl (Nat.le_of_ble_eq_true rfl) dX12_apart_54 ?_
              rw [m_p11]
              refine q_iinc (lv' := [some (.ref 64), some (q_i c), some (q_i s), some (q_i (k + 1))]) dX12_apart_57 rfl (by decide) rfl ?_
              refine q_goto (tgt := 25) dX12_apart_60 (by decide) ?_
              exact q_Jle (q_le_s (rfl) (q_le_s (rfl) (q_le_s (rfl) (q_le_s (rfl) (q_le_e _))))) (rfl) (by rw [m_uu, z_sum_s _ hk0]; (try dsimp only); (repeat' split) <;> first | rfl | (exfalso; omega)) (ih25 (k + 1) (by omega) (by omega) (by omega))
      exact q_Jle (q_le_s (rfl) (q_le_s (rfl) (q_le_s (rfl) (q_le_s (rfl) (q_le_e _))))) (rfl) (rfl) (L25 ((μ 1 0 : Int).toNat + 1) 0 (by omega) (by omega) (by omega))
    · skip
      refine q_iconst dX12_apart_16 ?_
      exact q_iret rfl dX12_apart_17 (⟨by (unfold m_apart_v; (repeat' split) <;> first | rfl | (exfalso; omega)), by (unfold m_apart_s; (repeat' split) <;> first | rfl | (exfalso; omega))⟩)
set_option maxRecDepth 20000 in
theorem tX12_near (w : q_W) (μ : m_S) (c n : Int) (hc : q_r c) (hn : q_r n) (hH : m_Sh μ) : q_D mX12_near 4 [.ref 64, q_i c, q_i n] (m_w w μ) (some (q_i (m_near_v μ c n))) (m_w w μ) := by
  refine q_T.of (lv := [some (.ref 64), some (q_i c), some (q_i n), none, none]) (by decide) rfl (Nat.le_of_ble_eq_true rfl) ?_
  have hb := hH.b
  refine q_aload_n dX12_near_0 rfl ?_
  refine q_iload_n dX12_near_1 rfl ?_
  refine q_cV [q_i c] kX12_205_12 rfl (tX12_isSetting w μ c (hc) (by omega) (by omega)) dX12_near_2 rfl (by decide) (Nat.le_of_ble_eq_true rfl) rfl ?_
  refine q_ifb_eq (tgt := 20) dX12_near_5 (by decide) (fun h5 => ?_) (fun h5 => ?_)
  · skip
    refine q_iconst dX12_near_20 ?_
    exact q_iret rfl dX12_near_21 (⟨by (unfold m_near_v; (repeat' split) <;> first | rfl | (exfalso; omega)), rfl⟩)
  · skip
    refine q_iload_n dX12_near_8 rfl ?_
    refine q_i2lr dX12_near_9 hn ?_
    refine q_lconst 0 dX12_near_10 ?_
    refine q_ldc2 9 wd_1418 dX12_near_11 ?_
    refine q_cS [q_l n, q_l 0, q_l 9] kX12_57 (tX12_in n 0 9 (⟨by have := (hn).1; omega, by have := (hn).2; omega⟩) (⟨by decide, by decide⟩) (⟨by decide, by decide⟩) (m_w w μ)) dX12_near_14 rfl (by decide) (Nat.le_of_ble_eq_true rfl) rfl ?_
    refine q_ifb_ne (tgt := 22) dX12_near_17 (by decide) (fun h17 => ?_) (fun h17 => ?_)
    · skip
      have hG := hH.g (by omega)
      have hW := hG.1
      have hN := hG.2.1
      refine q_iconst dX12_near_22 ?_
      refine q_istore_n (lv' := [some (.ref 64), some (q_i c), some (q_i n), some (q_i 0), none]) dX12_near_23 (by decide) rfl ?_
      refine q_iconst dX12_near_24 ?_
      refine q_istore (lv' := [some (.ref 64), some (q_i c), some (q_i n), some (q_i 0), some (q_i 0)]) dX12_near_25 (by decide) rfl ?_
      have L27 : ∀ (m9 : Nat) (k : Int) (hk0 : 0 ≤ k) (hk1 : k ≤ μ 3 0) (hm9 : μ 3 0 - k < (m9 : Int)), q_J mX12_near 4 (fun v' w' => v' = (some (q_i (m_near_v μ c n))) ∧ w' = (m_w w μ)) 0 0 27 [some (.ref 64), some (q_i c), some (q_i n), some (q_i (z_sum (fun s => if z_far (μ 1 0) (μ 2 0) c s ≤ n then 1 else 0) k)), some (q_i k)] [] (m_w w μ) := by
        intro m9
        induction m9 with
        | zero => intro k hk0 hk1 hm9; exact absurd hm9 (by omega)
        | succ m9 ih27 =>
          intro k hk0 hk1 hm9
          refine q_iload dX12_near_27 rfl ?_
          refine q_aload_n dX12_near_29 rfl ?_
          refine q_get (v := q_i (μ 3 0)) fX12_139_12 rfl rfl dX12_near_30 ?_
          refine q_icmp_ge (tgt := 61) dX12_near_33 (by decide) ⟨by omega, by omega⟩ ⟨by omega, by omega⟩ (fun h33 => ?_) (fun h33 => ?_)
          · skip
            refine q_iload_n dX12_near_61 rfl ?_
            exact q_iret rfl dX12_near_62 (⟨by rw [show k = μ 3 0 by omega]; unfold m_near_v; (repeat' split) <;> first | rfl | (exfalso; omega), rfl⟩)
          · skip
            have hfr := z_far_r (c := c) (s := k) hW hN (by omega) hk0
            refine q_iload_n dX12_near_36 rfl ?_
            refine q_aload_n dX12_near_37 rfl ?_
            refine q_iload_n dX12_near_38 rfl ?_
            refine q_iload dX12_near_39 rfl ?_
            refine q_cV [q_i c, q_i k] kX12_248_12 rfl (tX12_far w μ c k (by omega) (by omega) (by omega) (by omega) hG) dX12_near_41 rfl (by decide) (Nat.le_of_ble_eq_true rfl) rfl ?_
            show q_J _ _ _ _ _ _ _ [q_i (z_far (μ 1 0) (μ 2 0) c k), q_i (z_sum (fun s => if z_far (μ 1 0) (μ 2 0) c s ≤ n then 1 else 0) k)] (m_w w μ)
            refine q_iload_n dX12_near_44 rfl ?_
            refine q_icmp_gt (tgt := 52) dX12_near_45 (by decide) ⟨by omega, by omega⟩ hn (fun h45 => ?_) (fun h45 => ?_)
            · skip
              refine q_iconst dX12_near_52 ?_
              refine q_iadd dX12_near_53 ?_
              refine q_istore_n (lv' := [some (.ref 64), some (q_i c), some (q_i n), some (q_i ((z_sum (fun s => if z_far (μ 1 0) (μ 2 0) c s ≤ n then 1 else 0) k) + 0)), some (q_i k)]) dX12_near_54 (by decide) rfl ?_
              refine q_iinc (lv' := [some (.ref 64), some (q_i c), some (q_i n), some (q_i ((z_sum (fun s => if z_far (μ 1 0) (μ 2 0) c s ≤ n then 1 else 0) k) + 0)), some (q_i (k + 1))]) dX12_near_55 rfl (by decide) rfl ?_
              refine q_goto (tgt := 27) dX12_near_58 (by decide) ?_
              exact q_Jle (q_le_s (rfl) (q_le_s (rfl) (q_le_s (rfl) (q_le_s (by rw [z_sum_s _ hk0]; (try dsimp only); (repeat' split) <;> first | rfl | (exfalso; omega)) (q_le_s (rfl) (q_le_e _)))))) (rfl) (rfl) (ih27 (k + 1) (by omega) (by omega) (by omega))
            · skip
              refine q_iconst dX12_near_48 ?_
              refine q_goto (tgt := 53) dX12_near_49 (by decide) ?_
              refine q_iadd dX12_near_53 ?_
              refine q_istore_n (lv' := [some (.ref 64), some (q_i c), some (q_i n), some (q_i ((z_sum (fun s => if z_far (μ 1 0) (μ 2 0) c s ≤ n then 1 else 0) k) + 1)), some (q_i k)]) dX12_near_54 (by decide) rfl ?_
              refine q_iinc (lv' := [some (.ref 64), some (q_i c), some (q_i n), some (q_i ((z_sum (fun s => if z_far (μ 1 0) (μ 2 0) c s ≤ n then 1 else 0) k) + 1)), some (q_i (k + 1))]) dX12_near_55 rfl (by decide) rfl ?_
              refine q_goto (tgt := 27) dX12_near_58 (by decide) ?_
              exact q_Jle (q_le_s (rfl) (q_le_s (rfl) (q_le_s (rfl) (q_le_s (by rw [z_sum_s _ hk0]; (try dsimp only); (repeat' split) <;> first | rfl | (exfalso; omega)) (q_le_s (rfl) (q_le_e _)))))) (rfl) (rfl) (ih27 (k + 1) (by omega) (by omega) (by omega))
      exact q_Jle (q_le_s (rfl) (q_le_s (rfl) (q_le_s (rfl) (q_le_s (rfl) (q_le_s (rfl) (q_le_e _)))))) (rfl) (rfl) (L27 ((μ 3 0 : Int).toNat + 1) 0 (by omega) (by omega) (by omega))
    · skip
      refine q_iconst dX12_near_20 ?_
      exact q_iret rfl dX12_near_21 (⟨by (unfold m_near_v; (repeat' split) <;> first | rfl | (exfalso; omega)), rfl⟩)
def m_sb (μ : m_S) (p s : Int) : Int := z_sum (fun c => μ 6 c * m_ways μ p c s) (μ 3 0)
theorem m_ww_r {μ : m_S} (hG : m_G μ) (hV : m_V μ) (p s : Int) {c : Int} (h0 : 0 ≤ c) (h1 : c < μ 3 0) : 0 ≤ μ 6 c * m_ways μ p c s ∧ μ 6 c * m_ways μ p c s ≤ 17179869184 := z_mul2 (hV.2 c h0 h1) (m_ways_r hG p c s)
theorem m_sb_r {μ : m_S} (hG : m_G μ) (hV : m_V μ) (p s : Int) : 0 ≤ m_sb μ p s ∧ m_sb μ p s ≤ 3710851743744 := by
  have h := z_sum_b (fun c => μ 6 c * m_ways μ p c s) 0 17179869184 hV.1.1 (fun j h0 h1 => m_ww_r hG hV p s h0 h1)
  have h2 := hV.1
  unfold m_sb
  omega
set_option maxRecDepth 20000 in
theorem tX12_seenBy (w : q_W) (μ : m_S) (p s : Int) (hp0 : 0 ≤ p) (hp1 : p < μ 4 0) (hs0 : 0 ≤ s) (hs1 : s < μ 3 0) (hG : m_G μ) (hV : m_V μ) : q_D mX12_seenBy 5 [.ref 64, q_i p, q_i s] (m_w w μ) (some (q_l (m_sb μ p s))) (m_w w μ) := by
  refine q_T.of (lv := [some (.ref 64), some (q_i p), some (q_i s), none, none, none]) (by decide) rfl (Nat.le_of_ble_eq_true rfl) ?_
  have hW := hG.1
  have hN := hG.2.1
  have hS := hG.S
  have hPn := hG.2.2.2.1
  refine q_lconst 0 dX12_seenBy_0 ?_
  refine q_lstore_n (lv' := [some (.ref 64), some (q_i p), some (q_i s), some (q_l 0), none, none]) dX12_seenBy_1 (by decide) rfl ?_
  refine q_iconst dX12_seenBy_2 ?_
  refine q_istore (lv' := [some (.ref 64), some (q_i p), some (q_i s), some (q_l 0), none, some (q_i 0)]) dX12_seenBy_3 (by decide) rfl ?_
  have L5 : ∀ (m9 : Nat) (k : Int) (hk0 : 0 ≤ k) (hk1 : k ≤ μ 3 0) (hm9 : μ 3 0 - k < (m9 : Int)), q_J mX12_seenBy 5 (fun v' w' => v' = (some (q_l (m_sb μ p s))) ∧ w' = (m_w w μ)) 0 0 5 [some (.ref 64), some (q_i p), some (q_i s), some (q_l (z_sum (fun c => μ 6 c * m_ways μ p c s) k)), none, some (q_i k)] [] (m_w w μ) := by
    intro m9
    induction m9 with
    | zero => intro k hk0 hk1 hm9; exact absurd hm9 (by omega)
    | succ m9 ih5 =>
      intro k hk0 hk1 hm9
      refine q_iload dX12_seenBy_5 rfl ?_
      refine q_aload_n dX12_seenBy_7 rfl ?_
      refine q_get (v := q_i (μ 3 0)) fX12_139_12 rfl rfl dX12_seenBy_8 ?_
      refine q_icmp_ge (tgt := 40) dX12_seenBy_11 (by decide) ⟨by omega, by omega⟩ ⟨by omega, by omega⟩ (fun h11 => ?_) (fun h11 => ?_)
      · skip
        refine q_lload_n dX12_seenBy_40 rfl ?_
        exact q_lret rfl dX12_seenBy_41 (⟨by rw [show k = μ 3 0 by omega]; rfl, rfl⟩)
      · skip
        refine q_lload_n dX12_seenBy_14 rfl ?_
        refine q_aload_n dX12_seenBy_15 rfl ?_
        refine q_get (v := .ref 67) fX12_16_12 rfl rfl dX12_seenBy_16 ?_
        refine q_iload dX12_seenBy_19 rfl ?_
        refine q_lald (f := (μ 6)) (n9 := 216) rfl (by omega) (by omega) dX12_seenBy_21 ?_
        refine q_aload_n dX12_seenBy_22 rfl ?_
        refine q_iload_n dX12_seenBy_23 rfl ?_
        refine q_iload dX12_seenBy_24 rfl ?_
        refine q_iload_n dX12_seenBy_26 rfl ?_
        refine q_cV [q_i p, q_i k, q_i s] kX12_170_12 rfl (tX12_waysOf w μ p k s (by omega) (by omega) (by omega) (by omega) (by omega) (by omega) hG) dX12_seenBy_27 rfl (by decide) (Nat.le_of_ble_eq_true rfl) rfl ?_
        show q_J _ _ _ _ _ _ _ [q_i (m_ways μ p k s), q_l ((μ 6) k), q_l (z_sum (fun c => μ 6 c * m_ways μ p c s) k)] (m_w w μ)
        refine q_i2lr dX12_seenBy_30 ⟨by have := m_ways_r hG p k s; omega, by have := m_ways_r hG p k s; omega⟩ ?_
        refine q_lmul dX12_seenBy_31 ?_
        refine q_ladd dX12_seenBy_32 ?_
        refine q_lstore_n (lv' := [some (.ref 64), some (q_i p), some (q_i s), some (q_l ((z_sum (fun c => μ 6 c * m_ways μ p c s) k) + (((μ 6) k) * (m_ways μ p k s)))), none, some (q_i k)]) dX12_seenBy_33 (by decide) rfl ?_
        refine q_iinc (lv' := [some (.ref 64), some (q_i p), some (q_i s), some (q_l ((z_sum (fun c => μ 6 c * m_ways μ p c s) k) + (((μ 6) k) * (m_ways μ p k s)))), none, some (q_i (k + 1))]) dX12_seenBy_34 rfl (by decide) rfl ?_
        refine q_goto (tgt := 5) dX12_seenBy_37 (by decide) ?_
        exact q_Jle (q_le_s (rfl) (q_le_s (rfl) (q_le_s (rfl) (q_le_s (by rw [z_sum_s _ hk0]) (q_le_n (q_le_s (rfl) (q_le_e _))))))) (rfl) (rfl) (ih5 (k + 1) (by omega) (by omega) (by omega))
  exact q_Jle (q_le_s (rfl) (q_le_s (rfl) (q_le_s (rfl) (q_le_s (rfl) (q_le_n (q_le_s (rfl) (q_le_e _))))))) (rfl) (rfl) (L5 ((μ 3 0 : Int).toNat + 1) 0 (by omega) (by omega) (by omega))
theorem m_tpb {μ : m_S} (hG : m_G μ) (hV : m_V μ) (hp : 0 < z_sum (μ 6) (μ 3 0)) {p : Int} (h0 : 0 ≤ p) (h1 : p < μ 4 0) : 0 < z_sum (μ 6) (μ 3 0) * m_inall μ p ∧ z_sum (μ 6) (μ 3 0) * m_inall μ p ≤ 9223372036854775807 := by
  have g1 := m_sum6 hV
  have g2 := m_inall_r hG h0 h1
  have g3 := z_mul2 g1 ⟨by omega, g2.2⟩
  exact ⟨Int.mul_pos hp (by omega), by omega⟩
def m_seen_v (μ : m_S) (p s : Int) : Int := if ¬ (0 ≤ p ∧ p ≤ μ 4 0 - 1) then -1 else if ¬ (0 ≤ s ∧ s ≤ μ 3 0 - 1) then -1 else 1
def m_seen_s (μ : m_S) (p s : Int) : m_S := if ¬ (0 ≤ p ∧ p ≤ μ 4 0 - 1) then μ else if ¬ (0 ≤ s ∧ s ≤ μ 3 0 - 1) then μ else m_tp μ (m_sb μ p s) (z_sum (μ 6) (μ 3 0) * m_inall μ p)
set_option maxRecDepth 20000 in
theorem tX12_seen (w : q_W) (μ : m_S) (p s : Int) (hp : q_r p) (hs : q_r s) (hH : m_Sh μ) (hPo : m_Po μ) : q_D mX12_seen 6 [.ref 64, q_i p, q_i s] (m_w w μ) (some (q_i (m_seen_v μ p s))) (m_w w (m_seen_s μ p s)) := by
  refine q_T.of (lv := [some (.ref 64), some (q_i p), some (q_i s)]) (by decide) rfl (Nat.le_of_ble_eq_true rfl) ?_
  have hb := hH.b
  have hV := hPo.1
  have hs6 := m_sum6 hV
  refine q_aload_n dX12_seen_0 rfl ?_
  refine q_iload_n dX12_seen_1 rfl ?_
  refine q_cV [q_i p] kX12_183_12 rfl (tX12_isPerson w μ p (hp) (by omega) (by omega)) dX12_seen_2 rfl (by decide) (Nat.le_of_ble_eq_true rfl) rfl ?_
  refine q_ifb_eq (tgt := 40) dX12_seen_5 (by decide) (fun h5 => ?_) (fun h5 => ?_)
  · skip
    refine q_iconst dX12_seen_40 ?_
    exact q_iret rfl dX12_seen_41 (⟨by (unfold m_seen_v; (repeat' split) <;> first | rfl | (exfalso; omega)), by (unfold m_seen_s; (repeat' split) <;> first | rfl | (exfalso; omega))⟩)
  · skip
    refine q_aload_n dX12_seen_8 rfl ?_
    refine q_iload_n dX12_seen_9 rfl ?_
    refine q_cV [q_i s] kX12_205_12 rfl (tX12_isSetting w μ s (hs) (by omega) (by omega)) dX12_seen_10 rfl (by decide) (Nat.le_of_ble_eq_true rfl) rfl ?_
    refine q_ifb_eq (tgt := 40) dX12_seen_13 (by decide) (fun h13 => ?_) (fun h13 => ?_)
    · skip
      refine q_iconst dX12_seen_40 ?_
      exact q_iret rfl dX12_seen_41 (⟨by (unfold m_seen_v; (repeat' split) <;> first | rfl | (exfalso; omega)), by (unfold m_seen_s; (repeat' split) <;> first | rfl | (exfalso; omega))⟩)
    · skip
      have hG := hH.g (by omega)
      have hq := hPo.2 (by omega)
      have hbb := m_tpb hG hV hq (p := p) (by omega) (by omega)
      have hsr := m_sb_r hG hV p s
      refine q_aload_n dX12_seen_16 rfl ?_
      refine q_aload_n dX12_seen_17 rfl ?_
      refine q_iload_n dX12_seen_18 rfl ?_
      refine q_iload_n dX12_seen_19 rfl ?_
      refine q_cV [q_i p, q_i s] kX12_242_12 rfl (tX12_seenBy w μ p s (by omega) (by omega) (by omega) (by omega) hG hV) dX12_seen_20 rfl (by decide) (Nat.le_of_ble_eq_true rfl) rfl ?_
      show q_J _ _ _ _ _ _ _ [q_l (m_sb μ p s), .ref 64] (m_w w μ)
      refine q_aload_n dX12_seen_23 rfl ?_
      refine q_cV [] kX12_219_12 rfl (tX12_allWeights w μ hV) dX12_seen_24 rfl (by decide) (Nat.le_of_ble_eq_true rfl) rfl ?_
      refine q_aload_n dX12_seen_27 rfl ?_
      refine q_iload_n dX12_seen_28 rfl ?_
      refine q_cV [q_i p] kX12_177_12 rfl (tX12_waysInAll w μ p (by omega) (by omega) hG) dX12_seen_29 rfl (by decide) (Nat.le_of_ble_eq_true rfl) rfl ?_
      show q_J _ _ _ _ _ _ _ [q_i (m_inall μ p), q_l (z_sum (μ 6) (μ 3 0)), q_l (m_sb μ p s), .ref 64] (m_w w μ)
      refine q_i2lr dX12_seen_32 ⟨by have := m_inall_r hG (p := p) (by omega) (by omega); omega, by have := m_inall_r hG (p := p) (by omega) (by omega); omega⟩ ?_
      refine q_lmul dX12_seen_33 ?_
      refine q_cV [q_l (m_sb μ p s), q_l ((z_sum (μ 6) (μ 3 0)) * (m_inall μ p))] kX12_223_12 rfl (tX12_tellParts w μ (m_sb μ p s) ((z_sum (μ 6) (μ 3 0)) * (m_inall μ p)) hsr.1 (by omega) hbb.1 hbb.2) dX12_seen_34 rfl (by decide) (Nat.le_of_ble_eq_true rfl) rfl ?_
      refine q_goto (tgt := 41) dX12_seen_37 (by decide) ?_
      exact q_iret rfl dX12_seen_41 (⟨by (unfold m_seen_v; (repeat' split) <;> first | rfl | (exfalso; omega)), by (unfold m_seen_s; (repeat' split) <;> first | rfl | (exfalso; omega))⟩)
/-- the greatest of f's first n, from 0 on -/
def z_m (f : Int → Int) : Nat → Int
  | 0 => 0
  | k + 1 => if z_m f k < f k then f k else z_m f k
def z_max (f : Int → Int) (n : Int) : Int := z_m f n.toNat
theorem z_max_s (f : Int → Int) {n : Int} (h : 0 ≤ n) : z_max f (n + 1) = if z_max f n < f n then f n else z_max f n := by
  unfold z_max
  rw [show (n + 1).toNat = n.toNat + 1 by omega]
  show (if z_m f n.toNat < f (n.toNat : Int) then f (n.toNat : Int) else z_m f n.toNat) = _
  rw [show (n.toNat : Int) = n by omega]
theorem z_m_b (f : Int → Int) (b : Int) (hb : 0 ≤ b) : ∀ k : Nat, (∀ j : Int, 0 ≤ j → j < k → f j ≤ b) → 0 ≤ z_m f k ∧ z_m f k ≤ b
  | 0, _ => ⟨Int.le_refl 0, hb⟩
  | k + 1, h => by
    have h1 := z_m_b f b hb k (fun j h0 h1 => h j h0 (by omega))
    have h2 := h k (by omega) (by omega)
    show 0 ≤ (if z_m f k < f k then f k else z_m f k) ∧ (if z_m f k < f k then f k else z_m f k) ≤ b
    split <;> omega
theorem z_max_b (f : Int → Int) {b n : Int} (hb : 0 ≤ b) (h : ∀ j : Int, 0 ≤ j → j < n → f j ≤ b) : 0 ≤ z_max f n ∧ z_max f n ≤ b := z_m_b f b hb n.toNat (fun j h0 h1 => h j h0 (by omega))
def m_mx (μ : m_S) (p s n : Int) : Int := z_max (fun c => μ 6 c * m_ways μ p c s) n
theorem m_mx_r {μ : m_S} (hG : m_G μ) (hV : m_V μ) (p s : Int) {n : Int} (hn : n ≤ μ 3 0) : 0 ≤ m_mx μ p s n ∧ m_mx μ p s n ≤ 17179869184 := z_max_b _ (by decide) (fun j h0 h1 => (m_ww_r hG hV p s h0 (by omega)).2)
def m_wo (μ : m_S) (p : Int) : Int := z_sum (fun s => m_mx μ p s (μ 3 0)) (μ 3 0)
theorem m_wo_r {μ : m_S} (hG : m_G μ) (hV : m_V μ) (p : Int) : 0 ≤ m_wo μ p ∧ m_wo μ p ≤ 3710851743744 := by
  have h := z_sum_b (fun s => m_mx μ p s (μ 3 0)) 0 17179869184 hV.1.1 (fun j h0 h1 => m_mx_r hG hV p j (Int.le_refl _))
  have h2 := hV.1
  unfold m_wo
  omega
def m_worth_v (μ : m_S) (p : Int) : Int := if 0 ≤ p ∧ p ≤ μ 4 0 - 1 then 1 else -1
def m_worth_s (μ : m_S) (p : Int) : m_S := if 0 ≤ p ∧ p ≤ μ 4 0 - 1 then m_tp μ (m_wo μ p) (z_sum (μ 6) (μ 3 0) * m_inall μ p) else μ
set_option maxRecDepth 20000 in
theorem tX12_worthOf (w : q_W) (μ : m_S) (p : Int) (hp0 : 0 ≤ p) (hp1 : p < μ 4 0) (hG : m_G μ) (hV : m_V μ) : q_D mX12_worthOf 5 [.ref 64, q_i p] (m_w w μ) (some (q_l (m_wo μ p))) (m_w w μ) := by
  refine q_T.of (lv := [some (.ref 64), some (q_i p), none, none, none, none, none, none, none, none]) (by decide) rfl (Nat.le_of_ble_eq_true rfl) ?_
  have hW := hG.1
  have hN := hG.2.1
  have hS := hG.S
  have hPn := hG.2.2.2.1
  refine q_lconst 0 dX12_worthOf_0 ?_
  refine q_lstore_n (lv' := [some (.ref 64), some (q_i p), some (q_l 0), none, none, none, none, none, none, none]) dX12_worthOf_1 (by decide) rfl ?_
  refine q_iconst dX12_worthOf_2 ?_
  refine q_istore (lv' := [some (.ref 64), some (q_i p), some (q_l 0), none, some (q_i 0), none, none, none, none, none]) dX12_worthOf_3 (by decide) rfl ?_
  have L5 : ∀ (m9 : Nat) (s : Int) (hs0 : 0 ≤ s) (hs1 : s ≤ μ 3 0) (hm9 : μ 3 0 - s < (m9 : Int)), q_J mX12_worthOf 5 (fun v' w' => v' = (some (q_l (m_wo μ p))) ∧ w' = (m_w w μ)) 0 0 5 [some (.ref 64), some (q_i p), some (q_l (z_sum (fun s => m_mx μ p s (μ 3 0)) s)), none, some (q_i s), none, none, none, none, none] [] (m_w w μ) := by
    intro m9
    induction m9 with
    | zero => intro s hs0 hs1 hm9; exact absurd hm9 (by omega)
    | succ m9 ih5 =>
      intro s hs0 hs1 hm9
      refine q_iload dX12_worthOf_5 rfl ?_
      refine q_aload_n dX12_worthOf_7 rfl ?_
      refine q_get (v := q_i (μ 3 0)) fX12_139_12 rfl rfl dX12_worthOf_8 ?_
      refine q_icmp_ge (tgt := 83) dX12_worthOf_11 (by decide) ⟨by omega, by omega⟩ ⟨by omega, by omega⟩ (fun h11 => ?_) (fun h11 => ?_)
      · skip
        refine q_lload_n dX12_worthOf_83 rfl ?_
        exact q_lret rfl dX12_worthOf_84 (⟨by rw [show s = μ 3 0 by omega]; rfl, rfl⟩)
      · skip
        refine q_lconst 0 dX12_worthOf_14 ?_
        refine q_lstore (lv' := [some (.ref 64), some (q_i p), some (q_l (z_sum (fun s => m_mx μ p s (μ 3 0)) s)), none, some (q_i s), some (q_l 0), none, none, none, none]) dX12_worthOf_15 (by decide) rfl ?_
        refine q_iconst dX12_worthOf_17 ?_
        refine q_istore (lv' := [some (.ref 64), some (q_i p), some (q_l (z_sum (fun s => m_mx μ p s (μ 3 0)) s)), none, some (q_i s), some (q_l 0), none, some (q_i 0), none, none]) dX12_worthOf_18 (by decide) rfl ?_
        have L20 : ∀ (m9 : Nat) (c : Int) (hc0 : 0 ≤ c) (hc1 : c ≤ μ 3 0) (hm9 : μ 3 0 - c < (m9 : Int)), q_J mX12_worthOf 5 (fun v' w' => v' = (some (q_l (m_wo μ p))) ∧ w' = (m_w w μ)) 0 0 20 [some (.ref 64), some (q_i p), some (q_l (z_sum (fun s => m_mx μ p s (μ 3 0)) s)), none, some (q_i s), some (q_l (m_mx μ p s c)), none, some (q_i c), none, none] [] (m_w w μ) := by
          intro m9
          induction m9 with
          | zero => intro c hc0 hc1 hm9; exact absurd hm9 (by omega)
          | succ m9 ih20 =>
            intro c hc0 hc1 hm9
            refine q_iload dX12_worthOf_20 rfl ?_
            refine q_aload_n dX12_worthOf_22 rfl ?_
            refine q_get (v := q_i (μ 3 0)) fX12_139_12 rfl rfl dX12_worthOf_23 ?_
            refine q_icmp_ge (tgt := 72) dX12_worthOf_26 (by decide) ⟨by omega, by omega⟩ ⟨by omega, by omega⟩ (fun h26 => ?_) (fun h26 => ?_)
            · skip
              refine q_lload_n dX12_worthOf_72 rfl ?_
              refine q_lload dX12_worthOf_73 rfl ?_
              refine q_ladd dX12_worthOf_75 ?_
              refine q_lstore_n (lv' := [some (.ref 64), some (q_i p), some (q_l ((z_sum (fun s => m_mx μ p s (μ 3 0)) s) + (m_mx μ p s c))), none, some (q_i s), some (q_l (m_mx μ p s c)), none, some (q_i c), none, none]) dX12_worthOf_76 (by decide) rfl ?_
              refine q_iinc (lv' := [some (.ref 64), some (q_i p), some (q_l ((z_sum (fun s => m_mx μ p s (μ 3 0)) s) + (m_mx μ p s c))), none, some (q_i (s + 1)), some (q_l (m_mx μ p s c)), none, some (q_i c), none, none]) dX12_worthOf_77 rfl (by decide) rfl ?_
              refine q_goto (tgt := 5) dX12_worthOf_80 (by decide) ?_
              exact q_Jle (q_le_s (rfl) (q_le_s (rfl) (q_le_s (by rw [z_sum_s _ hs0, show c = μ 3 0 by omega]) (q_le_n (q_le_s (rfl) (q_le_n (q_le_n (q_le_n (q_le_n (q_le_n (q_le_e _))))))))))) (rfl) (rfl) (ih5 (s + 1) (by omega) (by omega) (by omega))
            · skip
              refine q_aload_n dX12_worthOf_29 rfl ?_
              refine q_get (v := .ref 67) fX12_16_12 rfl rfl dX12_worthOf_30 ?_
              refine q_iload dX12_worthOf_33 rfl ?_
              refine q_lald (f := (μ 6)) (n9 := 216) rfl (by omega) (by omega) dX12_worthOf_35 ?_
              refine q_aload_n dX12_worthOf_36 rfl ?_
              refine q_iload_n dX12_worthOf_37 rfl ?_
              refine q_iload dX12_worthOf_38 rfl ?_
              refine q_iload dX12_worthOf_40 rfl ?_
              refine q_cV [q_i p, q_i c, q_i s] kX12_170_12 rfl (tX12_waysOf w μ p c s (by omega) (by omega) (by omega) (by omega) (by omega) (by omega) hG) dX12_worthOf_42 rfl (by decide) (Nat.le_of_ble_eq_true rfl) rfl ?_
              show q_J _ _ _ _ _ _ _ [q_i (m_ways μ p c s), q_l ((μ 6) c)] (m_w w μ)
              refine q_i2lr dX12_worthOf_45 ⟨by have := m_ways_r hG p c s; omega, by have := m_ways_r hG p c s; omega⟩ ?_
              refine q_lmul dX12_worthOf_46 ?_
              refine q_lstore (lv' := [some (.ref 64), some (q_i p), some (q_l (z_sum (fun s => m_mx μ p s (μ 3 0)) s)), none, some (q_i s), some (q_l (m_mx μ p s c)), none, some (q_i c), some (q_l (((μ 6) c) * (m_ways μ p c s))), none]) dX12_worthOf_47 (by decide) rfl ?_
              refine q_lload dX12_worthOf_49 rfl ?_
              refine q_lload dX12_worthOf_51 rfl ?_
              refine q_lcmp_le (tgt := 62) dX12_worthOf_53 dX12_worthOf_54 (by decide) ⟨by have := m_ww_r hG hV p s (c := c) hc0 (by omega); omega, by have := m_ww_r hG hV p s (c := c) hc0 (by omega); omega⟩ ⟨by have := m_mx_r hG hV p s (n := c) (by omega); omega, by have := m_mx_r hG hV p s (n := c) (by omega); omega⟩ (fun h53 => ?_) (fun h53 => ?_)
              · skip
                refine q_lload dX12_worthOf_62 rfl ?_
                refine q_lstore (lv' := [some (.ref 64), some (q_i p), some (q_l (z_sum (fun s => m_mx μ p s (μ 3 0)) s)), none, some (q_i s), some (q_l (m_mx μ p s c)), none, some (q_i c), some (q_l (((μ 6) c) * (m_ways μ p c s))), none]) dX12_worthOf_64 (by decide) rfl ?_
                refine q_iinc (lv' := [some (.ref 64), some (q_i p), some (q_l (z_sum (fun s => m_mx μ p s (μ 3 0)) s)), none, some (q_i s), some (q_l (m_mx μ p s c)), none, some (q_i (c + 1)), some (q_l (((μ 6) c) * (m_ways μ p c s))), none]) dX12_worthOf_66 rfl (by decide) rfl ?_
                refine q_goto (tgt := 20) dX12_worthOf_69 (by decide) ?_
                exact q_Jle (q_le_s (rfl) (q_le_s (rfl) (q_le_s (rfl) (q_le_n (q_le_s (rfl) (q_le_s (by unfold m_mx; rw [z_max_s _ hc0]; split <;> first | rfl | (exfalso; unfold m_mx at *; omega)) (q_le_n (q_le_s (rfl) (q_le_n (q_le_n (q_le_e _))))))))))) (rfl) (rfl) (ih20 (c + 1) (by omega) (by omega) (by omega))
              · skip
                refine q_lload dX12_worthOf_57 rfl ?_
                refine q_goto (tgt := 64) dX12_worthOf_59 (by decide) ?_
                refine q_lstore (lv' := [some (.ref 64), some (q_i p), some (q_l (z_sum (fun s => m_mx μ p s (μ 3 0)) s)), none, some (q_i s), some (q_l (((μ 6) c) * (m_ways μ p c s))), none, some (q_i c), some (q_l (((μ 6) c) * (m_ways μ p c s))), none]) dX12_worthOf_64 (by decide) rfl ?_
                refine q_iinc (lv' := [some (.ref 64), some (q_i p), some (q_l (z_sum (fun s => m_mx μ p s (μ 3 0)) s)), none, some (q_i s), some (q_l (((μ 6) c) * (m_ways μ p c s))), none, some (q_i (c + 1)), some (q_l (((μ 6) c) * (m_ways μ p c s))), none]) dX12_worthOf_66 rfl (by decide) rfl ?_
                refine q_goto (tgt := 20) dX12_worthOf_69 (by decide) ?_
                exact q_Jle (q_le_s (rfl) (q_le_s (rfl) (q_le_s (rfl) (q_le_n (q_le_s (rfl) (q_le_s (by unfold m_mx; rw [z_max_s _ hc0]; split <;> first | rfl | (exfalso; unfold m_mx at *; omega)) (q_le_n (q_le_s (rfl) (q_le_n (q_le_n (q_le_e _))))))))))) (rfl) (rfl) (ih20 (c + 1) (by omega) (by omega) (by omega))
        exact q_Jle (q_le_s (rfl) (q_le_s (rfl) (q_le_s (rfl) (q_le_n (q_le_s (rfl) (q_le_s (rfl) (q_le_n (q_le_s (rfl) (q_le_n (q_le_n (q_le_e _))))))))))) (rfl) (rfl) (L20 ((μ 3 0 : Int).toNat + 1) 0 (by omega) (by omega) (by omega))
  exact q_Jle (q_le_s (rfl) (q_le_s (rfl) (q_le_s (rfl) (q_le_n (q_le_s (rfl) (q_le_n (q_le_n (q_le_n (q_le_n (q_le_n (q_le_e _))))))))))) (rfl) (rfl) (L5 ((μ 3 0 : Int).toNat + 1) 0 (by omega) (by omega) (by omega))
set_option maxRecDepth 20000 in
theorem tX12_worth (w : q_W) (μ : m_S) (p : Int) (hp : q_r p) (hH : m_Sh μ) (hPo : m_Po μ) : q_D mX12_worth 6 [.ref 64, q_i p] (m_w w μ) (some (q_i (m_worth_v μ p))) (m_w w (m_worth_s μ p)) := by
  refine q_T.of (lv := [some (.ref 64), some (q_i p)]) (by decide) rfl (Nat.le_of_ble_eq_true rfl) ?_
  have hb := hH.b
  have hV := hPo.1
  have hs6 := m_sum6 hV
  refine q_aload_n dX12_worth_0 rfl ?_
  refine q_iload_n dX12_worth_1 rfl ?_
  refine q_cV [q_i p] kX12_183_12 rfl (tX12_isPerson w μ p (hp) (by omega) (by omega)) dX12_worth_2 rfl (by decide) (Nat.le_of_ble_eq_true rfl) rfl ?_
  refine q_ifb_eq (tgt := 31) dX12_worth_5 (by decide) (fun h5 => ?_) (fun h5 => ?_)
  · skip
    refine q_iconst dX12_worth_31 ?_
    exact q_iret rfl dX12_worth_32 (⟨by (unfold m_worth_v; (repeat' split) <;> first | rfl | (exfalso; omega)), by (unfold m_worth_s; (repeat' split) <;> first | rfl | (exfalso; omega))⟩)
  · skip
    have hG := hH.g (by omega)
    have hS := hG.S
    have hq := hPo.2 (by omega)
    have hbb := m_tpb hG hV hq (p := p) (by omega) (by omega)
    have hsr := m_wo_r hG hV p
    refine q_aload_n dX12_worth_8 rfl ?_
    refine q_aload_n dX12_worth_9 rfl ?_
    refine q_iload_n dX12_worth_10 rfl ?_
    refine q_cV [q_i p] kX12_238_12 rfl (tX12_worthOf w μ p (by omega) (by omega) hG hV) dX12_worth_11 rfl (by decide) (Nat.le_of_ble_eq_true rfl) rfl ?_
    refine q_aload_n dX12_worth_14 rfl ?_
    refine q_cV [] kX12_219_12 rfl (tX12_allWeights w μ hV) dX12_worth_15 rfl (by decide) (Nat.le_of_ble_eq_true rfl) rfl ?_
    refine q_aload_n dX12_worth_18 rfl ?_
    refine q_iload_n dX12_worth_19 rfl ?_
    refine q_cV [q_i p] kX12_177_12 rfl (tX12_waysInAll w μ p (by omega) (by omega) hG) dX12_worth_20 rfl (by decide) (Nat.le_of_ble_eq_true rfl) rfl ?_
    show q_J _ _ _ _ _ _ _ [q_i (m_inall μ p), q_l (z_sum (μ 6) (μ 3 0)), q_l (m_wo μ p), .ref 64] (m_w w μ)
    refine q_i2lr dX12_worth_23 ⟨by have := m_inall_r hG (p := p) (by omega) (by omega); omega, by have := m_inall_r hG (p := p) (by omega) (by omega); omega⟩ ?_
    refine q_lmul dX12_worth_24 ?_
    refine q_cV [q_l (m_wo μ p), q_l ((z_sum (μ 6) (μ 3 0)) * (m_inall μ p))] kX12_223_12 rfl (tX12_tellParts w μ (m_wo μ p) ((z_sum (μ 6) (μ 3 0)) * (m_inall μ p)) hsr.1 (by omega) hbb.1 hbb.2) dX12_worth_25 rfl (by decide) (Nat.le_of_ble_eq_true rfl) rfl ?_
    refine q_goto (tgt := 32) dX12_worth_28 (by decide) ?_
    exact q_iret rfl dX12_worth_32 (⟨by (unfold m_worth_v; (repeat' split) <;> first | rfl | (exfalso; omega)), by (unfold m_worth_s; (repeat' split) <;> first | rfl | (exfalso; omega))⟩)
