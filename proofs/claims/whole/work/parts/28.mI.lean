/-! the reference: who, counts -/
/-- the first of those above 0 in f whose f by g is greatest; -9: none -/
def z_wo (f g : Int → Int) : Nat → Int
  | 0 => -9
  | k + 1 => if 0 < f k ∧ (z_wo f g k = -9 ∨ f (z_wo f g k) * g k < f k * g (z_wo f g k)) then k else z_wo f g k
def z_who (f g : Int → Int) (n : Int) : Int := z_wo f g n.toNat
theorem z_who_s (f g : Int → Int) {n : Int} (h : 0 ≤ n) : z_who f g (n + 1) = if 0 < f n ∧ (z_who f g n = -9 ∨ f (z_who f g n) * g n < f n * g (z_who f g n)) then n else z_who f g n := by
  unfold z_who
  rw [show (n + 1).toNat = n.toNat + 1 by omega]
  show (if 0 < f (n.toNat : Int) ∧ (z_wo f g n.toNat = -9 ∨ f (z_wo f g n.toNat) * g (n.toNat : Int) < f (n.toNat : Int) * g (z_wo f g n.toNat)) then (n.toNat : Int) else z_wo f g n.toNat) = _
  rw [show (n.toNat : Int) = n by omega]
theorem z_wo_r (f g : Int → Int) : ∀ k : Nat, z_wo f g k = -9 ∨ (0 ≤ z_wo f g k ∧ z_wo f g k < k)
  | 0 => Or.inl rfl
  | k + 1 => by
    have h := z_wo_r f g k
    show (if 0 < f k ∧ (z_wo f g k = -9 ∨ f (z_wo f g k) * g k < f k * g (z_wo f g k)) then (k : Int) else z_wo f g k) = -9 ∨ (0 ≤ (if 0 < f k ∧ (z_wo f g k = -9 ∨ f (z_wo f g k) * g k < f k * g (z_wo f g k)) then (k : Int) else z_wo f g k) ∧ (if 0 < f k ∧ (z_wo f g k = -9 ∨ f (z_wo f g k) * g k < f k * g (z_wo f g k)) then (k : Int) else z_wo f g k) < ((k + 1 : Nat) : Int))
    split <;> omega
theorem z_who_r (f g : Int → Int) {n : Int} (h : 0 ≤ n) : z_who f g n = -9 ∨ (0 ≤ z_who f g n ∧ z_who f g n < n) := by
  have h1 := z_wo_r f g n.toNat
  unfold z_who
  omega
def m_wf (μ : m_S) (c s p : Int) : Int := m_ways μ p c s
def m_who_v (μ : m_S) (c s : Int) : Int := if ¬ (0 ≤ c ∧ c ≤ μ 3 0 - 1) then -1 else if ¬ (0 ≤ s ∧ s ≤ μ 3 0 - 1) then -1 else z_bits (fun p => if 0 < m_wf μ c s p then 0 else 9) (μ 4 0)
def m_who_s (μ : m_S) (c s : Int) : m_S := if ¬ (0 ≤ c ∧ c ≤ μ 3 0 - 1) then μ else if ¬ (0 ≤ s ∧ s ≤ μ 3 0 - 1) then μ else m_u μ 11 (fun _ => z_who (m_wf μ c s) (m_inall μ) (μ 4 0))
theorem m_wfi_r {μ : m_S} (hG : m_G μ) (c s a : Int) {p : Int} (h0 : 0 ≤ p) (h1 : p < μ 4 0) : 0 ≤ m_wf μ c s a * m_inall μ p ∧ m_wf μ c s a * m_inall μ p ≤ 864 := by
  have h2 := m_inall_r hG h0 h1
  exact z_mul2 (m_ways_r hG a c s) ⟨by omega, h2.2⟩
set_option maxRecDepth 20000 in
theorem tX12_who (w : q_W) (μ : m_S) (c s : Int) (hc : q_r c) (hs : q_r s) (hH : m_Sh μ) : q_D mX12_who 6 [.ref 64, q_i c, q_i s] (m_w w μ) (some (q_i (m_who_v μ c s))) (m_w w (m_who_s μ c s)) := by
  refine q_T.of (lv := [some (.ref 64), some (q_i c), some (q_i s), none, none, none, none]) (by decide) rfl (Nat.le_of_ble_eq_true rfl) ?_
  have hb := hH.b
  refine q_aload_n dX12_who_0 rfl ?_
  refine q_iload_n dX12_who_1 rfl ?_
  refine q_cV [q_i c] kX12_205_12 rfl (tX12_isSetting w μ c (hc) (by omega) (by omega)) dX12_who_2 rfl (by decide) (Nat.le_of_ble_eq_true rfl) rfl ?_
  refine q_ifb_eq (tgt := 16) dX12_who_5 (by decide) (fun h5 => ?_) (fun h5 => ?_)
  · skip
    refine q_iconst dX12_who_16 ?_
    exact q_iret rfl dX12_who_17 (⟨by (unfold m_who_v; (repeat' split) <;> first | rfl | (exfalso; omega)), by (unfold m_who_s; (repeat' split) <;> first | rfl | (exfalso; omega))⟩)
  · skip
    refine q_aload_n dX12_who_8 rfl ?_
    refine q_iload_n dX12_who_9 rfl ?_
    refine q_cV [q_i s] kX12_205_12 rfl (tX12_isSetting w μ s (hs) (by omega) (by omega)) dX12_who_10 rfl (by decide) (Nat.le_of_ble_eq_true rfl) rfl ?_
    refine q_ifb_ne (tgt := 18) dX12_who_13 (by decide) (fun h13 => ?_) (fun h13 => ?_)
    · skip
      have hG := hH.g (by omega)
      refine q_iconst dX12_who_18 ?_
      refine q_istore_n (lv' := [some (.ref 64), some (q_i c), some (q_i s), some (q_i 0), none, none, none]) dX12_who_19 (by decide) rfl ?_
      refine q_aload_n dX12_who_20 rfl ?_
      refine q_bipush dX12_who_21 ?_
      refine q_puti (fs := m_o μ) pX12_52_12 rfl (Nat.le_of_ble_eq_true rfl) dX12_who_23 ?_
      rw [m_p11]
      refine q_iconst dX12_who_26 ?_
      refine q_istore (lv' := [some (.ref 64), some (q_i c), some (q_i s), some (q_i 0), some (q_i 0), none, none]) dX12_who_27 (by decide) rfl ?_
      have L29 : ∀ (m9 : Nat) (k : Int) (hk0 : 0 ≤ k) (hk1 : k ≤ μ 4 0) (hm9 : μ 4 0 - k < (m9 : Int)), q_J mX12_who 6 (fun v' w' => v' = (some (q_i (m_who_v μ c s))) ∧ w' = (m_w w (m_who_s μ c s))) 0 0 29 [some (.ref 64), some (q_i c), some (q_i s), some (q_i (z_bits (fun p => if 0 < m_wf μ c s p then 0 else 9) k)), some (q_i k), none, none] [] (m_w w (m_u μ 11 (fun _ => z_who (m_wf μ c s) (m_inall μ) k))) := by
        intro m9
        induction m9 with
        | zero => intro k hk0 hk1 hm9; exact absurd hm9 (by omega)
        | succ m9 ih29 =>
          intro k hk0 hk1 hm9
          refine q_iload dX12_who_29 rfl ?_
          refine q_aload_n dX12_who_31 rfl ?_
          refine q_get (v := q_i (μ 4 0)) fX12_142_12 rfl rfl dX12_who_32 ?_
          refine q_icmp_ge (tgt := 140) dX12_who_35 (by decide) ⟨by omega, by omega⟩ ⟨by omega, by omega⟩ (fun h35 => ?_) (fun h35 => ?_)
          · skip
            refine q_iload_n dX12_who_140 rfl ?_
            exact q_iret rfl dX12_who_141 (⟨by rw [show k = μ 4 0 by omega]; unfold m_who_v; (repeat' split) <;> first | rfl | (exfalso; omega), by rw [show k = μ 4 0 by omega]; unfold m_who_s; (repeat' split) <;> first | rfl | (exfalso; omega)⟩)
          · skip
            have hzr := z_who_r (m_wf μ c s) (m_inall μ) hk0
            refine q_aload_n dX12_who_38 rfl ?_
            refine q_iload dX12_who_39 rfl ?_
            refine q_iload_n dX12_who_41 rfl ?_
            refine q_iload_n dX12_who_42 rfl ?_
            refine q_cV [q_i k, q_i c, q_i s] kX12_170_12 rfl (tX12_waysOf w (m_u μ 11 (fun _ => z_who (m_wf μ c s) (m_inall μ) k)) k c s (show (0 : Int) ≤ k by omega) (show k < μ 4 0 by omega) (show (0 : Int) ≤ c by omega) (show c < μ 3 0 by omega) (show (0 : Int) ≤ s by omega) (show s < μ 3 0 by omega) hG) dX12_who_43 rfl (by decide) (Nat.le_of_ble_eq_true rfl) rfl ?_
            show q_J _ _ _ _ _ _ _ [q_i (m_wf μ c s k)] (m_w w (m_u μ 11 (fun _ => z_who (m_wf μ c s) (m_inall μ) k)))
            refine q_istore (lv' := [some (.ref 64), some (q_i c), some (q_i s), some (q_i (z_bits (fun p => if 0 < m_wf μ c s p then 0 else 9) k)), some (q_i k), some (q_i (m_wf μ c s k)), none]) dX12_who_46 (by decide) rfl ?_
            refine q_iload_n dX12_who_48 rfl ?_
            refine q_iload dX12_who_49 rfl ?_
            refine q_if_le (tgt := 61) dX12_who_51 (by decide) ⟨by have := m_ways_r hG k c s; unfold m_wf; omega, by have := m_ways_r hG k c s; unfold m_wf; omega⟩ (fun h51 => ?_) (fun h51 => ?_)
            · skip
              refine q_iconst dX12_who_61 ?_
              refine q_ior dX12_who_62 ?_
              refine q_istore_n (lv' := [some (.ref 64), some (q_i c), some (q_i s), some (q_i (q_or (z_bits (fun p => if 0 < m_wf μ c s p then 0 else 9) k) 0)), some (q_i k), some (q_i (m_wf μ c s k)), none]) dX12_who_63 (by decide) rfl ?_
              refine q_iload dX12_who_64 rfl ?_
              refine q_if_le (tgt := 113) dX12_who_66 (by decide) ⟨by have := m_ways_r hG k c s; unfold m_wf; omega, by have := m_ways_r hG k c s; unfold m_wf; omega⟩ (fun h66 => ?_) (fun h66 => ?_)
              · skip
                refine q_iconst dX12_who_113 ?_
                refine q_istore (lv' := [some (.ref 64), some (q_i c), some (q_i s), some (q_i (q_or (z_bits (fun p => if 0 < m_wf μ c s p then 0 else 9) k) 0)), some (q_i k), some (q_i (m_wf μ c s k)), some (q_i 0)]) dX12_who_114 (by decide) rfl ?_
                refine q_aload_n dX12_who_116 rfl ?_
                refine q_iload dX12_who_117 rfl ?_
                refine q_if_eq (tgt := 127) dX12_who_119 (by decide) ⟨by decide, by decide⟩ (fun h119 => ?_) (fun h119 => ?_)
                · skip
                  refine q_aload_n dX12_who_127 rfl ?_
                  refine q_get (v := q_i (z_who (m_wf μ c s) (m_inall μ) k)) fX12_52_12 rfl rfl dX12_who_128 ?_
                  refine q_puti (fs := m_o (m_u μ 11 (fun _ => z_who (m_wf μ c s) (m_inall μ) k))) pX12_52_12 rfl (Nat.le_of_ble_eq_true rfl) dX12_who_131 ?_
                  rw [m_p11]
                  refine q_iinc (lv' := [some (.ref 64), some (q_i c), some (q_i s), some (q_i (q_or (z_bits (fun p => if 0 < m_wf μ c s p then 0 else 9) k) 0)), some (q_i (k + 1)), some (q_i (m_wf μ c s k)), some (q_i 0)]) dX12_who_134 rfl (by decide) rfl ?_
                  refine q_goto (tgt := 29) dX12_who_137 (by decide) ?_
                  exact q_Jle (q_le_s (rfl) (q_le_s (rfl) (q_le_s (rfl) (q_le_s (by rw [z_bits_s _ hk0]; (try dsimp only); (repeat' split) <;> first | rfl | (exfalso; omega)) (q_le_s (rfl) (q_le_n (q_le_n (q_le_e _)))))))) (rfl) (by rw [m_uu, z_who_s _ _ hk0]; (repeat' split) <;> first | rfl | (exfalso; omega)) (ih29 (k + 1) (by omega) (by omega) (by omega))
                · skip
                  refine q_iload dX12_who_122 rfl ?_
                  refine q_goto (tgt := 131) dX12_who_124 (by decide) ?_
                  refine q_puti (fs := m_o (m_u μ 11 (fun _ => z_who (m_wf μ c s) (m_inall μ) k))) pX12_52_12 rfl (Nat.le_of_ble_eq_true rfl) dX12_who_131 ?_
                  rw [m_p11]
                  refine q_iinc (lv' := [some (.ref 64), some (q_i c), some (q_i s), some (q_i (q_or (z_bits (fun p => if 0 < m_wf μ c s p then 0 else 9) k) 0)), some (q_i (k + 1)), some (q_i (m_wf μ c s k)), some (q_i 0)]) dX12_who_134 rfl (by decide) rfl ?_
                  refine q_goto (tgt := 29) dX12_who_137 (by decide) ?_
                  exact q_Jle (q_le_s (rfl) (q_le_s (rfl) (q_le_s (rfl) (q_le_s (by rw [z_bits_s _ hk0]; (try dsimp only); (repeat' split) <;> first | rfl | (exfalso; omega)) (q_le_s (rfl) (q_le_n (q_le_n (q_le_e _)))))))) (rfl) (by rw [m_uu, z_who_s _ _ hk0]; (repeat' split) <;> first | rfl | (exfalso; omega)) (ih29 (k + 1) (by omega) (by omega) (by omega))
              · skip
                refine q_aload_n dX12_who_69 rfl ?_
                refine q_get (v := q_i (z_who (m_wf μ c s) (m_inall μ) k)) fX12_52_12 rfl rfl dX12_who_70 ?_
                refine q_bipush dX12_who_73 ?_
                refine q_icmp_eq (tgt := 109) dX12_who_75 (by decide) ⟨by omega, by omega⟩ ⟨by decide, by decide⟩ (fun h75 => ?_) (fun h75 => ?_)
                · skip
                  refine q_iconst dX12_who_109 ?_
                  refine q_goto (tgt := 114) dX12_who_110 (by decide) ?_
                  refine q_istore (lv' := [some (.ref 64), some (q_i c), some (q_i s), some (q_i (q_or (z_bits (fun p => if 0 < m_wf μ c s p then 0 else 9) k) 0)), some (q_i k), some (q_i (m_wf μ c s k)), some (q_i 1)]) dX12_who_114 (by decide) rfl ?_
                  refine q_aload_n dX12_who_116 rfl ?_
                  refine q_iload dX12_who_117 rfl ?_
                  refine q_if_eq (tgt := 127) dX12_who_119 (by decide) ⟨by decide, by decide⟩ (fun h119 => ?_) (fun h119 => ?_)
                  · skip
                    refine q_aload_n dX12_who_127 rfl ?_
                    refine q_get (v := q_i (z_who (m_wf μ c s) (m_inall μ) k)) fX12_52_12 rfl rfl dX12_who_128 ?_
                    refine q_puti (fs := m_o (m_u μ 11 (fun _ => z_who (m_wf μ c s) (m_inall μ) k))) pX12_52_12 rfl (Nat.le_of_ble_eq_true rfl) dX12_who_131 ?_
                    rw [m_p11]
                    refine q_iinc (lv' := [some (.ref 64), some (q_i c), some (q_i s), some (q_i (q_or (z_bits (fun p => if 0 < m_wf μ c s p then 0 else 9) k) 0)), some (q_i (k + 1)), some (q_i (m_wf μ c s k)), some (q_i 1)]) dX12_who_134 rfl (by decide) rfl ?_
                    refine q_goto (tgt := 29) dX12_who_137 (by decide) ?_
                    exact q_Jle (q_le_s (rfl) (q_le_s (rfl) (q_le_s (rfl) (q_le_s (by rw [z_bits_s _ hk0]; (try dsimp only); (repeat' split) <;> first | rfl | (exfalso; omega)) (q_le_s (rfl) (q_le_n (q_le_n (q_le_e _)))))))) (rfl) (by rw [m_uu, z_who_s _ _ hk0]; (repeat' split) <;> first | rfl | (exfalso; omega)) (ih29 (k + 1) (by omega) (by omega) (by omega))
                  · skip
                    refine q_iload dX12_who_122 rfl ?_
                    refine q_goto (tgt := 131) dX12_who_124 (by decide) ?_
                    refine q_puti (fs := m_o (m_u μ 11 (fun _ => z_who (m_wf μ c s) (m_inall μ) k))) pX12_52_12 rfl (Nat.le_of_ble_eq_true rfl) dX12_who_131 ?_
                    rw [m_p11]
                    refine q_iinc (lv' := [some (.ref 64), some (q_i c), some (q_i s), some (q_i (q_or (z_bits (fun p => if 0 < m_wf μ c s p then 0 else 9) k) 0)), some (q_i (k + 1)), some (q_i (m_wf μ c s k)), some (q_i 1)]) dX12_who_134 rfl (by decide) rfl ?_
                    refine q_goto (tgt := 29) dX12_who_137 (by decide) ?_
                    exact q_Jle (q_le_s (rfl) (q_le_s (rfl) (q_le_s (rfl) (q_le_s (by rw [z_bits_s _ hk0]; (try dsimp only); (repeat' split) <;> first | rfl | (exfalso; omega)) (q_le_s (rfl) (q_le_n (q_le_n (q_le_e _)))))))) (rfl) (by rw [m_uu, z_who_s _ _ hk0]; (repeat' split) <;> first | rfl | (exfalso; omega)) (ih29 (k + 1) (by omega) (by omega) (by omega))
                · skip
                  refine q_iload dX12_who_78 rfl ?_
                  refine q_aload_n dX12_who_80 rfl ?_
                  refine q_aload_n dX12_who_81 rfl ?_
                  refine q_get (v := q_i (z_who (m_wf μ c s) (m_inall μ) k)) fX12_52_12 rfl rfl dX12_who_82 ?_
                  refine q_cV [q_i (z_who (m_wf μ c s) (m_inall μ) k)] kX12_177_12 rfl (tX12_waysInAll w (m_u μ 11 (fun _ => z_who (m_wf μ c s) (m_inall μ) k)) (z_who (m_wf μ c s) (m_inall μ) k) (show (0 : Int) ≤ (z_who (m_wf μ c s) (m_inall μ) k) by omega) (show (z_who (m_wf μ c s) (m_inall μ) k) < μ 4 0 by omega) hG) dX12_who_85 rfl (by decide) (Nat.le_of_ble_eq_true rfl) rfl ?_
                  show q_J _ _ _ _ _ _ _ [q_i (m_inall μ (z_who (m_wf μ c s) (m_inall μ) k)), q_i (m_wf μ c s k)] (m_w w (m_u μ 11 (fun _ => z_who (m_wf μ c s) (m_inall μ) k)))
                  refine q_imul dX12_who_88 ?_
                  refine q_aload_n dX12_who_89 rfl ?_
                  refine q_aload_n dX12_who_90 rfl ?_
                  refine q_get (v := q_i (z_who (m_wf μ c s) (m_inall μ) k)) fX12_52_12 rfl rfl dX12_who_91 ?_
                  refine q_iload_n dX12_who_94 rfl ?_
                  refine q_iload_n dX12_who_95 rfl ?_
                  refine q_cV [q_i (z_who (m_wf μ c s) (m_inall μ) k), q_i c, q_i s] kX12_170_12 rfl (tX12_waysOf w (m_u μ 11 (fun _ => z_who (m_wf μ c s) (m_inall μ) k)) (z_who (m_wf μ c s) (m_inall μ) k) c s (show (0 : Int) ≤ (z_who (m_wf μ c s) (m_inall μ) k) by omega) (show (z_who (m_wf μ c s) (m_inall μ) k) < μ 4 0 by omega) (show (0 : Int) ≤ c by omega) (show c < μ 3 0 by omega) (show (0 : Int) ≤ s by omega) (show s < μ 3 0 by omega) hG) dX12_who_96 rfl (by decide) (Nat.le_of_ble_eq_true rfl) rfl ?_
                  show q_J _ _ _ _ _ _ _ [q_i (m_wf μ c s (z_who (m_wf μ c s) (m_inall μ) k)), q_i ((m_wf μ c s k) * (m_inall μ (z_who (m_wf μ c s) (m_inall μ) k)))] (m_w w (m_u μ 11 (fun _ => z_who (m_wf μ c s) (m_inall μ) k)))
                  refine q_aload_n dX12_who_99 rfl ?_
                  refine q_iload dX12_who_100 rfl ?_
                  refine q_cV [q_i k] kX12_177_12 rfl (tX12_waysInAll w (m_u μ 11 (fun _ => z_who (m_wf μ c s) (m_inall μ) k)) k (show (0 : Int) ≤ k by omega) (show k < μ 4 0 by omega) hG) dX12_who_102 rfl (by decide) (Nat.le_of_ble_eq_true rfl) rfl ?_
                  show q_J _ _ _ _ _ _ _ [q_i (m_inall μ k), q_i (m_wf μ c s (z_who (m_wf μ c s) (m_inall μ) k)), q_i ((m_wf μ c s k) * (m_inall μ (z_who (m_wf μ c s) (m_inall μ) k)))] (m_w w (m_u μ 11 (fun _ => z_who (m_wf μ c s) (m_inall μ) k)))
                  refine q_imul dX12_who_105 ?_
                  refine q_icmp_le (tgt := 113) dX12_who_106 (by decide) ⟨by have := m_wfi_r hG c s k (p := (z_who (m_wf μ c s) (m_inall μ) k)) (by omega) (by omega); omega, by have := m_wfi_r hG c s k (p := (z_who (m_wf μ c s) (m_inall μ) k)) (by omega) (by omega); omega⟩ ⟨by have := m_wfi_r hG c s (z_who (m_wf μ c s) (m_inall μ) k) (p := k) (by omega) (by omega); omega, by have := m_wfi_r hG c s (z_who (m_wf μ c s) (m_inall μ) k) (p := k) (by omega) (by omega); omega⟩ (fun h106 => ?_) (fun h106 => ?_)
                  · skip
                    refine q_iconst dX12_who_113 ?_
                    refine q_istore (lv' := [some (.ref 64), some (q_i c), some (q_i s), some (q_i (q_or (z_bits (fun p => if 0 < m_wf μ c s p then 0 else 9) k) 0)), some (q_i k), some (q_i (m_wf μ c s k)), some (q_i 0)]) dX12_who_114 (by decide) rfl ?_
                    refine q_aload_n dX12_who_116 rfl ?_
                    refine q_iload dX12_who_117 rfl ?_
                    refine q_if_eq (tgt := 127) dX12_who_119 (by decide) ⟨by decide, by decide⟩ (fun h119 => ?_) (fun h119 => ?_)
                    · skip
                      refine q_aload_n dX12_who_127 rfl ?_
                      refine q_get (v := q_i (z_who (m_wf μ c s) (m_inall μ) k)) fX12_52_12 rfl rfl dX12_who_128 ?_
                      refine q_puti (fs := m_o (m_u μ 11 (fun _ => z_who (m_wf μ c s) (m_inall μ) k))) pX12_52_12 rfl (Nat.le_of_ble_eq_true rfl) dX12_who_131 ?_
                      rw [m_p11]
                      refine q_iinc (lv' := [some (.ref 64), some (q_i c), some (q_i s), some (q_i (q_or (z_bits (fun p => if 0 < m_wf μ c s p then 0 else 9) k) 0)), some (q_i (k + 1)), some (q_i (m_wf μ c s k)), some (q_i 0)]) dX12_who_134 rfl (by decide) rfl ?_
                      refine q_goto (tgt := 29) dX12_who_137 (by decide) ?_
                      exact q_Jle (q_le_s (rfl) (q_le_s (rfl) (q_le_s (rfl) (q_le_s (by rw [z_bits_s _ hk0]; (try dsimp only); (repeat' split) <;> first | rfl | (exfalso; omega)) (q_le_s (rfl) (q_le_n (q_le_n (q_le_e _)))))))) (rfl) (by rw [m_uu, z_who_s _ _ hk0]; (repeat' split) <;> first | rfl | (exfalso; omega)) (ih29 (k + 1) (by omega) (by omega) (by omega))
                    · skip
                      refine q_iload dX12_who_122 rfl ?_
                      refine q_goto (tgt := 131) dX12_who_124 (by decide) ?_
                      refine q_puti (fs := m_o (m_u μ 11 (fun _ => z_who (m_wf μ c s) (m_inall μ) k))) pX12_52_12 rfl (Nat.le_of_ble_eq_true rfl) dX12_who_131 ?_
                      rw [m_p11]
                      refine q_iinc (lv' := [some (.ref 64), some (q_i c), some (q_i s), some (q_i (q_or (z_bits (fun p => if 0 < m_wf μ c s p then 0 else 9) k) 0)), some (q_i (k + 1)), some (q_i (m_wf μ c s k)), some (q_i 0)]) dX12_who_134 rfl (by decide) rfl ?_
                      refine q_goto (tgt := 29) dX12_who_137 (by decide) ?_
                      exact q_Jle (q_le_s (rfl) (q_le_s (rfl) (q_le_s (rfl) (q_le_s (by rw [z_bits_s _ hk0]; (try dsimp only); (repeat' split) <;> first | rfl | (exfalso; omega)) (q_le_s (rfl) (q_le_n (q_le_n (q_le_e _)))))))) (rfl) (by rw [m_uu, z_who_s _ _ hk0]; (repeat' split) <;> first | rfl | (exfalso; omega)) (ih29 (k + 1) (by omega) (by omega) (by omega))
                  · skip
                    refine q_iconst dX12_who_109 ?_
                    refine q_goto (tgt := 114) dX12_who_110 (by decide) ?_
                    refine q_istore (lv' := [some (.ref 64), some (q_i c), some (q_i s), some (q_i (q_or (z_bits (fun p => if 0 < m_wf μ c s p then 0 else 9) k) 0)), some (q_i k), some (q_i (m_wf μ c s k)), some (q_i 1)]) dX12_who_114 (by decide) rfl ?_
                    refine q_aload_n dX12_who_116 rfl ?_
                    refine q_iload dX12_who_117 rfl ?_
                    refine q_if_eq (tgt := 127) dX12_who_119 (by decide) ⟨by decide, by decide⟩ (fun h119 => ?_) (fun h119 => ?_)
                    · skip
                      refine q_aload_n dX12_who_127 rfl ?_
                      refine q_get (v := q_i (z_who (m_wf μ c s) (m_inall μ) k)) fX12_52_12 rfl rfl dX12_who_128 ?_
                      refine q_puti (fs := m_o (m_u μ 11 (fun _ => z_who (m_wf μ c s) (m_inall μ) k))) pX12_52_12 rfl (Nat.le_of_ble_eq_true rfl) dX12_who_131 ?_
                      rw [m_p11]
                      refine q_iinc (lv' := [some (.ref 64), some (q_i c), some (q_i s), some (q_i (q_or (z_bits (fun p => if 0 < m_wf μ c s p then 0 else 9) k) 0)), some (q_i (k + 1)), some (q_i (m_wf μ c s k)), some (q_i 1)]) dX12_who_134 rfl (by decide) rfl ?_
                      refine q_goto (tgt := 29) dX12_who_137 (by decide) ?_
                      exact q_Jle (q_le_s (rfl) (q_le_s (rfl) (q_le_s (rfl) (q_le_s (by rw [z_bits_s _ hk0]; (try dsimp only); (repeat' split) <;> first | rfl | (exfalso; omega)) (q_le_s (rfl) (q_le_n (q_le_n (q_le_e _)))))))) (rfl) (by rw [m_uu, z_who_s _ _ hk0]; (repeat' split) <;> first | rfl | (exfalso; omega)) (ih29 (k + 1) (by omega) (by omega) (by omega))
                    · skip
                      refine q_iload dX12_who_122 rfl ?_
                      refine q_goto (tgt := 131) dX12_who_124 (by decide) ?_
                      refine q_puti (fs := m_o (m_u μ 11 (fun _ => z_who (m_wf μ c s) (m_inall μ) k))) pX12_52_12 rfl (Nat.le_of_ble_eq_true rfl) dX12_who_131 ?_
                      rw [m_p11]
                      refine q_iinc (lv' := [some (.ref 64), some (q_i c), some (q_i s), some (q_i (q_or (z_bits (fun p => if 0 < m_wf μ c s p then 0 else 9) k) 0)), some (q_i (k + 1)), some (q_i (m_wf μ c s k)), some (q_i 1)]) dX12_who_134 rfl (by decide) rfl ?_
                      refine q_goto (tgt := 29) dX12_who_137 (by decide) ?_
                      exact q_Jle (q_le_s (rfl) (q_le_s (rfl) (q_le_s (rfl) (q_le_s (by rw [z_bits_s _ hk0]; (try dsimp only); (repeat' split) <;> first | rfl | (exfalso; omega)) (q_le_s (rfl) (q_le_n (q_le_n (q_le_e _)))))))) (rfl) (by rw [m_uu, z_who_s _ _ hk0]; (repeat' split) <;> first | rfl | (exfalso; omega)) (ih29 (k + 1) (by omega) (by omega) (by omega))
            · skip
              refine q_iconst dX12_who_54 ?_
              refine q_iload dX12_who_55 rfl ?_
              refine q_ishl dX12_who_57 ?_
              refine q_goto (tgt := 62) dX12_who_58 (by decide) ?_
              refine q_ior dX12_who_62 ?_
              refine q_istore_n (lv' := [some (.ref 64), some (q_i c), some (q_i s), some (q_i (q_or (z_bits (fun p => if 0 < m_wf μ c s p then 0 else 9) k) (q_shl 1 k))), some (q_i k), some (q_i (m_wf μ c s k)), none]) dX12_who_63 (by decide) rfl ?_
              refine q_iload dX12_who_64 rfl ?_
              refine q_if_le (tgt := 113) dX12_who_66 (by decide) ⟨by have := m_ways_r hG k c s; unfold m_wf; omega, by have := m_ways_r hG k c s; unfold m_wf; omega⟩ (fun h66 => ?_) (fun h66 => ?_)
              · skip
                refine q_iconst dX12_who_113 ?_
                refine q_istore (lv' := [some (.ref 64), some (q_i c), some (q_i s), some (q_i (q_or (z_bits (fun p => if 0 < m_wf μ c s p then 0 else 9) k) (q_shl 1 k))), some (q_i k), some (q_i (m_wf μ c s k)), some (q_i 0)]) dX12_who_114 (by decide) rfl ?_
                refine q_aload_n dX12_who_116 rfl ?_
                refine q_iload dX12_who_117 rfl ?_
                refine q_if_eq (tgt := 127) dX12_who_119 (by decide) ⟨by decide, by decide⟩ (fun h119 => ?_) (fun h119 => ?_)
                · skip
                  refine q_aload_n dX12_who_127 rfl ?_
                  refine q_get (v := q_i (z_who (m_wf μ c s) (m_inall μ) k)) fX12_52_12 rfl rfl dX12_who_128 ?_
                  refine q_puti (fs := m_o (m_u μ 11 (fun _ => z_who (m_wf μ c s) (m_inall μ) k))) pX12_52_12 rfl (Nat.le_of_ble_eq_true rfl) dX12_who_131 ?_
                  rw [m_p11]
                  refine q_iinc (lv' := [some (.ref 64), some (q_i c), some (q_i s), some (q_i (q_or (z_bits (fun p => if 0 < m_wf μ c s p then 0 else 9) k) (q_shl 1 k))), some (q_i (k + 1)), some (q_i (m_wf μ c s k)), some (q_i 0)]) dX12_who_134 rfl (by decide) rfl ?_
                  refine q_goto (tgt := 29) dX12_who_137 (by decide) ?_
                  exact q_Jle (q_le_s (rfl) (q_le_s (rfl) (q_le_s (rfl) (q_le_s (by rw [z_bits_s _ hk0]; (try dsimp only); (repeat' split) <;> first | rfl | (exfalso; omega)) (q_le_s (rfl) (q_le_n (q_le_n (q_le_e _)))))))) (rfl) (by rw [m_uu, z_who_s _ _ hk0]; (repeat' split) <;> first | rfl | (exfalso; omega)) (ih29 (k + 1) (by omega) (by omega) (by omega))
                · skip
                  refine q_iload dX12_who_122 rfl ?_
                  refine q_goto (tgt := 131) dX12_who_124 (by decide) ?_
                  refine q_puti (fs := m_o (m_u μ 11 (fun _ => z_who (m_wf μ c s) (m_inall μ) k))) pX12_52_12 rfl (Nat.le_of_ble_eq_true rfl) dX12_who_131 ?_
                  rw [m_p11]
                  refine q_iinc (lv' := [some (.ref 64), some (q_i c), some (q_i s), some (q_i (q_or (z_bits (fun p => if 0 < m_wf μ c s p then 0 else 9) k) (q_shl 1 k))), some (q_i (k + 1)), some (q_i (m_wf μ c s k)), some (q_i 0)]) dX12_who_134 rfl (by decide) rfl ?_
                  refine q_goto (tgt := 29) dX12_who_137 (by decide) ?_
                  exact q_Jle (q_le_s (rfl) (q_le_s (rfl) (q_le_s (rfl) (q_le_s (by rw [z_bits_s _ hk0]; (try dsimp only); (repeat' split) <;> first | rfl | (exfalso; omega)) (q_le_s (rfl) (q_le_n (q_le_n (q_le_e _)))))))) (rfl) (by rw [m_uu, z_who_s _ _ hk0]; (repeat' split) <;> first | rfl | (exfalso; omega)) (ih29 (k + 1) (by omega) (by omega) (by omega))
              · skip
                refine q_aload_n dX12_who_69 rfl ?_
                refine q_get (v := q_i (z_who (m_wf μ c s) (m_inall μ) k)) fX12_52_12 rfl rfl dX12_who_70 ?_
                refine q_bipush dX12_who_73 ?_
                refine q_icmp_eq (tgt := 109) dX12_who_75 (by decide) ⟨by omega, by omega⟩ ⟨by decide, by decide⟩ (fun h75 => ?_) (fun h75 => ?_)
                · skip
                  refine q_iconst dX12_who_109 ?_
                  refine q_goto (tgt := 114) dX12_who_110 (by decide) ?_
                  refine q_istore (lv' := [some (.ref 64), some (q_i c), some (q_i s), some (q_i (q_or (z_bits (fun p => if 0 < m_wf μ c s p then 0 else 9) k) (q_shl 1 k))), some (q_i k), some (q_i (m_wf μ c s k)), some (q_i 1)]) dX12_who_114 (by decide) rfl ?_
                  refine q_aload_n dX12_who_116 rfl ?_
                  refine q_iload dX12_who_117 rfl ?_
                  refine q_if_eq (tgt := 127) dX12_who_119 (by decide) ⟨by decide, by decide⟩ (fun h119 => ?_) (fun h119 => ?_)
                  · skip
                    refine q_aload_n dX12_who_127 rfl ?_
                    refine q_get (v := q_i (z_who (m_wf μ c s) (m_inall μ) k)) fX12_52_12 rfl rfl dX12_who_128 ?_
                    refine q_puti (fs := m_o (m_u μ 11 (fun _ => z_who (m_wf μ c s) (m_inall μ) k))) pX12_52_12 rfl (Nat.le_of_ble_eq_true rfl) dX12_who_131 ?_
                    rw [m_p11]
                    refine q_iinc (lv' := [some (.ref 64), some (q_i c), some (q_i s), some (q_i (q_or (z_bits (fun p => if 0 < m_wf μ c s p then 0 else 9) k) (q_shl 1 k))), some (q_i (k + 1)), some (q_i (m_wf μ c s k)), some (q_i 1)]) dX12_who_134 rfl (by decide) rfl ?_
                    refine q_goto (tgt := 29) dX12_who_137 (by decide) ?_
                    exact q_Jle (q_le_s (rfl) (q_le_s (rfl) (q_le_s (rfl) (q_le_s (by rw [z_bits_s _ hk0]; (try dsimp only); (repeat' split) <;> first | rfl | (exfalso; omega)) (q_le_s (rfl) (q_le_n (q_le_n (q_le_e _)))))))) (rfl) (by rw [m_uu, z_who_s _ _ hk0]; (repeat' split) <;> first | rfl | (exfalso; omega)) (ih29 (k + 1) (by omega) (by omega) (by omega))
                  · skip
                    refine q_iload dX12_who_122 rfl ?_
                    refine q_goto (tgt := 131) dX12_who_124 (by decide) ?_
                    refine q_puti (fs := m_o (m_u μ 11 (fun _ => z_who (m_wf μ c s) (m_inall μ) k))) pX12_52_12 rfl (Nat.le_of_ble_eq_true rfl) dX12_who_131 ?_
                    rw [m_p11]
                    refine q_iinc (lv' := [some (.ref 64), some (q_i c), some (q_i s), some (q_i (q_or (z_bits (fun p => if 0 < m_wf μ c s p then 0 else 9) k) (q_shl 1 k))), some (q_i (k + 1)), some (q_i (m_wf μ c s k)), some (q_i 1)]) dX12_who_134 rfl (by decide) rfl ?_
                    refine q_goto (tgt := 29) dX12_who_137 (by decide) ?_
                    exact q_Jle (q_le_s (rfl) (q_le_s (rfl) (q_le_s (rfl) (q_le_s (by rw [z_bits_s _ hk0]; (try dsimp only); (repeat' split) <;> first | rfl | (exfalso; omega)) (q_le_s (rfl) (q_le_n (q_le_n (q_le_e _)))))))) (rfl) (by rw [m_uu, z_who_s _ _ hk0]; (repeat' split) <;> first | rfl | (exfalso; omega)) (ih29 (k + 1) (by omega) (by omega) (by omega))
                · skip
                  refine q_iload dX12_who_78 rfl ?_
                  refine q_aload_n dX12_who_80 rfl ?_
                  refine q_aload_n dX12_who_81 rfl ?_
                  refine q_get (v := q_i (z_who (m_wf μ c s) (m_inall μ) k)) fX12_52_12 rfl rfl dX12_who_82 ?_
                  refine q_cV [q_i (z_who (m_wf μ c s) (m_inall μ) k)] kX12_177_12 rfl (tX12_waysInAll w (m_u μ 11 (fun _ => z_who (m_wf μ c s) (m_inall μ) k)) (z_who (m_wf μ c s) (m_inall μ) k) (show (0 : Int) ≤ (z_who (m_wf μ c s) (m_inall μ) k) by omega) (show (z_who (m_wf μ c s) (m_inall μ) k) < μ 4 0 by omega) hG) dX12_who_85 rfl (by decide) (Nat.le_of_ble_eq_true rfl) rfl ?_
                  show q_J _ _ _ _ _ _ _ [q_i (m_inall μ (z_who (m_wf μ c s) (m_inall μ) k)), q_i (m_wf μ c s k)] (m_w w (m_u μ 11 (fun _ => z_who (m_wf μ c s) (m_inall μ) k)))
                  refine q_imul dX12_who_88 ?_
                  refine q_aload_n dX12_who_89 rfl ?_
                  refine q_aload_n dX12_who_90 rfl ?_
                  refine q_get (v := q_i (z_who (m_wf μ c s) (m_inall μ) k)) fX12_52_12 rfl rfl dX12_who_91 ?_
                  refine q_iload_n dX12_who_94 rfl ?_
                  refine q_iload_n dX12_who_95 rfl ?_
                  refine q_cV [q_i (z_who (m_wf μ c s) (m_inall μ) k), q_i c, q_i s] kX12_170_12 rfl (tX12_waysOf w (m_u μ 11 (fun _ => z_who (m_wf μ c s) (m_inall μ) k)) (z_who (m_wf μ c s) (m_inall μ) k) c s (show (0 : Int) ≤ (z_who (m_wf μ c s) (m_inall μ) k) by omega) (show (z_who (m_wf μ c s) (m_inall μ) k) < μ 4 0 by omega) (show (0 : Int) ≤ c by omega) (show c < μ 3 0 by omega) (show (0 : Int) ≤ s by omega) (show s < μ 3 0 by omega) hG) dX12_who_96 rfl (by decide) (Nat.le_of_ble_eq_true rfl) rfl ?_
                  show q_J _ _ _ _ _ _ _ [q_i (m_wf μ c s (z_who (m_wf μ c s) (m_inall μ) k)), q_i ((m_wf μ c s k) * (m_inall μ (z_who (m_wf μ c s) (m_inall μ) k)))] (m_w w (m_u μ 11 (fun _ => z_who (m_wf μ c s) (m_inall μ) k)))
                  refine q_aload_n dX12_who_99 rfl ?_
                  refine q_iload dX12_who_100 rfl ?_
                  refine q_cV [q_i k] kX12_177_12 rfl (tX12_waysInAll w (m_u μ 11 (fun _ => z_who (m_wf μ c s) (m_inall μ) k)) k (show (0 : Int) ≤ k by omega) (show k < μ 4 0 by omega) hG) dX12_who_102 rfl (by decide) (Nat.le_of_ble_eq_true rfl) rfl ?_
                  show q_J _ _ _ _ _ _ _ [q_i (m_inall μ k), q_i (m_wf μ c s (z_who (m_wf μ c s) (m_inall μ) k)), q_i ((m_wf μ c s k) * (m_inall μ (z_who (m_wf μ c s) (m_inall μ) k)))] (m_w w (m_u μ 11 (fun _ => z_who (m_wf μ c s) (m_inall μ) k)))
                  refine q_imul dX12_who_105 ?_
                  refine q_icmp_le (tgt := 113) dX12_who_106 (by decide) ⟨by have := m_wfi_r hG c s k (p := (z_who (m_wf μ c s) (m_inall μ) k)) (by omega) (by omega); omega, by have := m_wfi_r hG c s k (p := (z_who (m_wf μ c s) (m_inall μ) k)) (by omega) (by omega); omega⟩ ⟨by have := m_wfi_r hG c s (z_who (m_wf μ c s) (m_inall μ) k) (p := k) (by omega) (by omega); omega, by have := m_wfi_r hG c s (z_who (m_wf μ c s) (m_inall μ) k) (p := k) (by omega) (by omega); omega⟩ (fun h106 => ?_) (fun h106 => ?_)
                  · skip
                    refine q_iconst dX12_who_113 ?_
                    refine q_istore (lv' := [some (.ref 64), some (q_i c), some (q_i s), some (q_i (q_or (z_bits (fun p => if 0 < m_wf μ c s p then 0 else 9) k) (q_shl 1 k))), some (q_i k), some (q_i (m_wf μ c s k)), some (q_i 0)]) dX12_who_114 (by decide) rfl ?_
                    refine q_aload_n dX12_who_116 rfl ?_
                    refine q_iload dX12_who_117 rfl ?_
                    refine q_if_eq (tgt := 127) dX12_who_119 (by decide) ⟨by decide, by decide⟩ (fun h119 => ?_) (fun h119 => ?_)
                    · skip
                      refine q_aload_n dX12_who_127 rfl ?_
                      refine q_get (v := q_i (z_who (m_wf μ c s) (m_inall μ) k)) fX12_52_12 rfl rfl dX12_who_128 ?_
                      refine q_puti (fs := m_o (m_u μ 11 (fun _ => z_who (m_wf μ c s) (m_inall μ) k))) pX12_52_12 rfl (Nat.le_of_ble_eq_true rfl) dX12_who_131 ?_
                      rw [m_p11]
                      refine q_iinc (lv' := [some (.ref 64), some (q_i c), some (q_i s), some (q_i (q_or (z_bits (fun p => if 0 < m_wf μ c s p then 0 else 9) k) (q_shl 1 k))), some (q_i (k + 1)), some (q_i (m_wf μ c s k)), some (q_i 0)]) dX12_who_134 rfl (by decide) rfl ?_
                      refine q_goto (tgt := 29) dX12_who_137 (by decide) ?_
                      exact q_Jle (q_le_s (rfl) (q_le_s (rfl) (q_le_s (rfl) (q_le_s (by rw [z_bits_s _ hk0]; (try dsimp only); (repeat' split) <;> first | rfl | (exfalso; omega)) (q_le_s (rfl) (q_le_n (q_le_n (q_le_e _)))))))) (rfl) (by rw [m_uu, z_who_s _ _ hk0]; (repeat' split) <;> first | rfl | (exfalso; omega)) (ih29 (k + 1) (by omega) (by omega) (by omega))
                    · skip
                      refine q_iload dX12_who_122 rfl ?_
                      refine q_goto (tgt := 131) dX12_who_124 (by decide) ?_
                      refine q_puti (fs := m_o (m_u μ 11 (fun _ => z_who (m_wf μ c s) (m_inall μ) k))) pX12_52_12 rfl (Nat.le_of_ble_eq_true rfl) dX12_who_131 ?_
                      rw [m_p11]
                      refine q_iinc (lv' := [some (.ref 64), some (q_i c), some (q_i s), some (q_i (q_or (z_bits (fun p => if 0 < m_wf μ c s p then 0 else 9) k) (q_shl 1 k))), some (q_i (k + 1)), some (q_i (m_wf μ c s k)), some (q_i 0)]) dX12_who_134 rfl (by decide) rfl ?_
                      refine q_goto (tgt := 29) dX12_who_137 (by decide) ?_
                      exact q_Jle (q_le_s (rfl) (q_le_s (rfl) (q_le_s (rfl) (q_le_s (by rw [z_bits_s _ hk0]; (try dsimp only); (repeat' split) <;> first | rfl | (exfalso; omega)) (q_le_s (rfl) (q_le_n (q_le_n (q_le_e _)))))))) (rfl) (by rw [m_uu, z_who_s _ _ hk0]; (repeat' split) <;> first | rfl | (exfalso; omega)) (ih29 (k + 1) (by omega) (by omega) (by omega))
                  · skip
                    refine q_iconst dX12_who_109 ?_
                    refine q_goto (tgt := 114) dX12_who_110 (by decide) ?_
                    refine q_istore (lv' := [some (.ref 64), some (q_i c), some (q_i s), some (q_i (q_or (z_bits (fun p => if 0 < m_wf μ c s p then 0 else 9) k) (q_shl 1 k))), some (q_i k), some (q_i (m_wf μ c s k)), some (q_i 1)]) dX12_who_114 (by decide) rfl ?_
                    refine q_aload_n dX12_who_116 rfl ?_
                    refine q_iload dX12_who_117 rfl ?_
                    refine q_if_eq (tgt := 127) dX12_who_119 (by decide) ⟨by decide, by decide⟩ (fun h119 => ?_) (fun h119 => ?_)
                    · skip
                      refine q_aload_n dX12_who_127 rfl ?_
                      refine q_get (v := q_i (z_who (m_wf μ c s) (m_inall μ) k)) fX12_52_12 rfl rfl dX12_who_128 ?_
                      refine q_puti (fs := m_o (m_u μ 11 (fun _ => z_who (m_wf μ c s) (m_inall μ) k))) pX12_52_12 rfl (Nat.le_of_ble_eq_true rfl) dX12_who_131 ?_
                      rw [m_p11]
                      refine q_iinc (lv' := [some (.ref 64), some (q_i c), some (q_i s), some (q_i (q_or (z_bits (fun p => if 0 < m_wf μ c s p then 0 else 9) k) (q_shl 1 k))), some (q_i (k + 1)), some (q_i (m_wf μ c s k)), some (q_i 1)]) dX12_who_134 rfl (by decide) rfl ?_
                      refine q_goto (tgt := 29) dX12_who_137 (by decide) ?_
                      exact q_Jle (q_le_s (rfl) (q_le_s (rfl) (q_le_s (rfl) (q_le_s (by rw [z_bits_s _ hk0]; (try dsimp only); (repeat' split) <;> first | rfl | (exfalso; omega)) (q_le_s (rfl) (q_le_n (q_le_n (q_le_e _)))))))) (rfl) (by rw [m_uu, z_who_s _ _ hk0]; (repeat' split) <;> first | rfl | (exfalso; omega)) (ih29 (k + 1) (by omega) (by omega) (by omega))
                    · skip
                      refine q_iload dX12_who_122 rfl ?_
                      refine q_goto (tgt := 131) dX12_who_124 (by decide) ?_
                      refine q_puti (fs := m_o (m_u μ 11 (fun _ => z_who (m_wf μ c s) (m_inall μ) k))) pX12_52_12 rfl (Nat.le_of_ble_eq_true rfl) dX12_who_131 ?_
                      rw [m_p11]
                      refine q_iinc (lv' := [some (.ref 64), some (q_i c), some (q_i s), some (q_i (q_or (z_bits (fun p => if 0 < m_wf μ c s p then 0 else 9) k) (q_shl 1 k))), some (q_i (k + 1)), some (q_i (m_wf μ c s k)), some (q_i 1)]) dX12_who_134 rfl (by decide) rfl ?_
                      refine q_goto (tgt := 29) dX12_who_137 (by decide) ?_
                      exact q_Jle (q_le_s (rfl) (q_le_s (rfl) (q_le_s (rfl) (q_le_s (by rw [z_bits_s _ hk0]; (try dsimp only); (repeat' split) <;> first | rfl | (exfalso; omega)) (q_le_s (rfl) (q_le_n (q_le_n (q_le_e _)))))))) (rfl) (by rw [m_uu, z_who_s _ _ hk0]; (repeat' split) <;> first | rfl | (exfalso; omega)) (ih29 (k + 1) (by omega) (by omega) (by omega))
      exact q_Jle (q_le_s (rfl) (q_le_s (rfl) (q_le_s (rfl) (q_le_s (rfl) (q_le_s (rfl) (q_le_n (q_le_n (q_le_e _)))))))) (rfl) (rfl) (L29 ((μ 4 0 : Int).toNat + 1) 0 (by omega) (by omega) (by omega))
    · skip
      refine q_iconst dX12_who_16 ?_
      exact q_iret rfl dX12_who_17 (⟨by (unfold m_who_v; (repeat' split) <;> first | rfl | (exfalso; omega)), by (unfold m_who_s; (repeat' split) <;> first | rfl | (exfalso; omega))⟩)
set_option maxRecDepth 20000 in
theorem tX12_anys (w : q_W) (μ : m_S) (hH : m_Sh μ) : q_D mX12_anys 1 [.ref 64] (m_w w μ) (some (q_i (z_sum (fun p => if μ 5 p = 2 ∨ μ 5 p = 5 then 1 else 0) (μ 4 0)))) (m_w w μ) := by
  refine q_T.of (lv := [some (.ref 64), none, none]) (by decide) rfl (Nat.le_of_ble_eq_true rfl) ?_
  have hb := hH.b
  refine q_iconst dX12_anys_0 ?_
  refine q_istore_n (lv' := [some (.ref 64), some (q_i 0), none]) dX12_anys_1 (by decide) rfl ?_
  refine q_iconst dX12_anys_2 ?_
  refine q_istore_n (lv' := [some (.ref 64), some (q_i 0), some (q_i 0)]) dX12_anys_3 (by decide) rfl ?_
  have L4 : ∀ (m9 : Nat) (k : Int) (hk0 : 0 ≤ k) (hk1 : k ≤ μ 4 0) (hm9 : μ 4 0 - k < (m9 : Int)), q_J mX12_anys 1 (fun v' w' => v' = (some (q_i (z_sum (fun p => if μ 5 p = 2 ∨ μ 5 p = 5 then 1 else 0) (μ 4 0)))) ∧ w' = (m_w w μ)) 0 0 4 [some (.ref 64), some (q_i (z_sum (fun p => if μ 5 p = 2 ∨ μ 5 p = 5 then 1 else 0) k)), some (q_i k)] [] (m_w w μ) := by
    intro m9
    induction m9 with
    | zero => intro k hk0 hk1 hm9; exact absurd hm9 (by omega)
    | succ m9 ih4 =>
      intro k hk0 hk1 hm9
      refine q_iload_n dX12_anys_4 rfl ?_
      refine q_aload_n dX12_anys_5 rfl ?_
      refine q_get (v := q_i (μ 4 0)) fX12_142_12 rfl rfl dX12_anys_6 ?_
      refine q_icmp_ge (tgt := 35) dX12_anys_9 (by decide) ⟨by omega, by omega⟩ ⟨by omega, by omega⟩ (fun h9 => ?_) (fun h9 => ?_)
      · skip
        refine q_iload_n dX12_anys_35 rfl ?_
        exact q_iret rfl dX12_anys_36 (⟨by rw [show k = μ 4 0 by omega], rfl⟩)
      · skip
        have hG := hH.g (by omega)
        refine q_iload_n dX12_anys_12 rfl ?_
        refine q_aload_n dX12_anys_13 rfl ?_
        refine q_iload_n dX12_anys_14 rfl ?_
        refine q_iconst dX12_anys_15 ?_
        refine q_cV [q_i k, q_i 2] kX12_189_12 rfl (tX12_isOf w μ k 2 (by omega) (by omega) ⟨by decide, by decide⟩ hG) dX12_anys_16 rfl (by decide) (Nat.le_of_ble_eq_true rfl) rfl ?_
        refine q_ifb_eq (tgt := 26) dX12_anys_19 (by decide) (fun h19 => ?_) (fun h19 => ?_)
        · skip
          refine q_iconst dX12_anys_26 ?_
          refine q_iadd dX12_anys_27 ?_
          refine q_istore_n (lv' := [some (.ref 64), some (q_i ((z_sum (fun p => if μ 5 p = 2 ∨ μ 5 p = 5 then 1 else 0) k) + 0)), some (q_i k)]) dX12_anys_28 (by decide) rfl ?_
          refine q_iinc (lv' := [some (.ref 64), some (q_i ((z_sum (fun p => if μ 5 p = 2 ∨ μ 5 p = 5 then 1 else 0) k) + 0)), some (q_i (k + 1))]) dX12_anys_29 rfl (by decide) rfl ?_
          refine q_goto (tgt := 4) dX12_anys_32 (by decide) ?_
          exact q_Jle (q_le_s (rfl) (q_le_s (by rw [z_sum_s _ hk0]; (try dsimp only); (repeat' split) <;> first | rfl | (exfalso; omega)) (q_le_s (rfl) (q_le_e _)))) (rfl) (rfl) (ih4 (k + 1) (by omega) (by omega) (by omega))
        · skip
          refine q_iconst dX12_anys_22 ?_
          refine q_goto (tgt := 27) dX12_anys_23 (by decide) ?_
          refine q_iadd dX12_anys_27 ?_
          refine q_istore_n (lv' := [some (.ref 64), some (q_i ((z_sum (fun p => if μ 5 p = 2 ∨ μ 5 p = 5 then 1 else 0) k) + 1)), some (q_i k)]) dX12_anys_28 (by decide) rfl ?_
          refine q_iinc (lv' := [some (.ref 64), some (q_i ((z_sum (fun p => if μ 5 p = 2 ∨ μ 5 p = 5 then 1 else 0) k) + 1)), some (q_i (k + 1))]) dX12_anys_29 rfl (by decide) rfl ?_
          refine q_goto (tgt := 4) dX12_anys_32 (by decide) ?_
          exact q_Jle (q_le_s (rfl) (q_le_s (by rw [z_sum_s _ hk0]; (try dsimp only); (repeat' split) <;> first | rfl | (exfalso; omega)) (q_le_s (rfl) (q_le_e _)))) (rfl) (rfl) (ih4 (k + 1) (by omega) (by omega) (by omega))
  exact q_Jle (q_le_s (rfl) (q_le_s (rfl) (q_le_s (rfl) (q_le_e _)))) (rfl) (rfl) (L4 ((μ 4 0 : Int).toNat + 1) 0 (by omega) (by omega) (by omega))
def m_there (μ : m_S) (t : Int) : Int := if t = 7 then z_sum (fun k => if μ 7 k < 0 then 0 else 1) 6 else if t = 8 then z_sum (fun k => if k < 4 ∧ 0 ≤ μ 9 k then 1 else 0) 6 else z_sum (fun k => if k < 3 ∧ 0 ≤ μ 0 (38 * (1 + k)) then 1 else 0) 6
def m_th (μ : m_S) (t k : Int) : Int := if t = 7 then (if μ 7 k < 0 then 0 else 1) else if t = 8 then (if k < 4 ∧ 0 ≤ μ 9 k then 1 else 0) else (if k < 3 ∧ 0 ≤ μ 0 (38 * (1 + k)) then 1 else 0)
theorem m_there_e (μ : m_S) (t : Int) : z_sum (m_th μ t) 6 = m_there μ t := by
  unfold m_there
  (repeat' split)
  · exact z_sum_c (fun j _ _ => by unfold m_th; rw [if_pos (by assumption)])
  · exact z_sum_c (fun j _ _ => by unfold m_th; rw [if_neg (by assumption), if_pos (by assumption)])
  · exact z_sum_c (fun j _ _ => by unfold m_th; rw [if_neg (by assumption), if_neg (by assumption)])
set_option maxRecDepth 20000 in
theorem tX12_thereOf (w : q_W) (μ : m_S) (t : Int) (ht : q_r t) (hI : m_I μ) (hK : m_Ke μ) : q_D mX12_thereOf 0 [.ref 64, q_i t] (m_w w μ) (some (q_i (m_there μ t))) (m_w w μ) := by
  refine q_T.of (lv := [some (.ref 64), some (q_i t), none, none]) (by decide) rfl (Nat.le_of_ble_eq_true rfl) ?_
  refine q_iconst dX12_thereOf_0 ?_
  refine q_istore_n (lv' := [some (.ref 64), some (q_i t), some (q_i 0), none]) dX12_thereOf_1 (by decide) rfl ?_
  refine q_iconst dX12_thereOf_2 ?_
  refine q_istore_n (lv' := [some (.ref 64), some (q_i t), some (q_i 0), some (q_i 0)]) dX12_thereOf_3 (by decide) rfl ?_
  have L4 : ∀ (m9 : Nat) (k : Int) (hk0 : 0 ≤ k) (hk1 : k ≤ 6) (hm9 : 6 - k < (m9 : Int)), q_J mX12_thereOf 0 (fun v' w' => v' = (some (q_i (m_there μ t))) ∧ w' = (m_w w μ)) 0 0 4 [some (.ref 64), some (q_i t), some (q_i (z_sum (m_th μ t) k)), some (q_i k)] [] (m_w w μ) := by
    intro m9
    induction m9 with
    | zero => intro k hk0 hk1 hm9; exact absurd hm9 (by omega)
    | succ m9 ih4 =>
      intro k hk0 hk1 hm9
      refine q_iload_n dX12_thereOf_4 rfl ?_
      refine q_bipush dX12_thereOf_5 ?_
      refine q_icmp_ge (tgt := 96) dX12_thereOf_7 (by decide) ⟨by omega, by omega⟩ ⟨by decide, by decide⟩ (fun h7 => ?_) (fun h7 => ?_)
      · skip
        refine q_iload_n dX12_thereOf_96 rfl ?_
        exact q_iret rfl dX12_thereOf_97 (⟨by rw [show k = 6 by omega, m_there_e], rfl⟩)
      · skip
        refine q_iload_n dX12_thereOf_10 rfl ?_
        refine q_iload_n dX12_thereOf_11 rfl ?_
        refine q_bipush dX12_thereOf_12 ?_
        refine q_icmp_ne (tgt := 34) dX12_thereOf_14 (by decide) ht ⟨by decide, by decide⟩ (fun h14 => ?_) (fun h14 => ?_)
        · skip
          refine q_iload_n dX12_thereOf_34 rfl ?_
          refine q_bipush dX12_thereOf_35 ?_
          refine q_icmp_ne (tgt := 62) dX12_thereOf_37 (by decide) ht ⟨by decide, by decide⟩ (fun h37 => ?_) (fun h37 => ?_)
          · skip
            refine q_iload_n dX12_thereOf_62 rfl ?_
            refine q_iconst dX12_thereOf_63 ?_
            refine q_icmp_ge (tgt := 87) dX12_thereOf_64 (by decide) ⟨by omega, by omega⟩ ⟨by decide, by decide⟩ (fun h64 => ?_) (fun h64 => ?_)
            · skip
              refine q_iconst dX12_thereOf_87 ?_
              refine q_iadd dX12_thereOf_88 ?_
              refine q_istore_n (lv' := [some (.ref 64), some (q_i t), some (q_i ((z_sum (m_th μ t) k) + 0)), some (q_i k)]) dX12_thereOf_89 (by decide) rfl ?_
              refine q_iinc (lv' := [some (.ref 64), some (q_i t), some (q_i ((z_sum (m_th μ t) k) + 0)), some (q_i (k + 1))]) dX12_thereOf_90 rfl (by decide) rfl ?_
              refine q_goto (tgt := 4) dX12_thereOf_93 (by decide) ?_
              exact q_Jle (q_le_s (rfl) (q_le_s (rfl) (q_le_s (by rw [z_sum_s _ hk0]; unfold m_th; (repeat' split) <;> first | rfl | (exfalso; omega)) (q_le_s (rfl) (q_le_e _))))) (rfl) (rfl) (ih4 (k + 1) (by omega) (by omega) (by omega))
            · skip
              have hkk := hK k hk0 (by omega)
              refine q_aload_n dX12_thereOf_67 rfl ?_
              refine q_get (v := .ref 65) fX12_7_12 rfl rfl dX12_thereOf_68 ?_
              refine q_bipush dX12_thereOf_71 ?_
              refine q_iconst dX12_thereOf_73 ?_
              refine q_iload_n dX12_thereOf_74 rfl ?_
              refine q_iadd dX12_thereOf_75 ?_
              refine q_imul dX12_thereOf_76 ?_
              refine q_iconst dX12_thereOf_77 ?_
              refine q_iadd dX12_thereOf_78 ?_
              refine q_iald (f := (μ 0)) (n9 := 152) rfl (by omega) (by omega) dX12_thereOf_79 ?_
              rw [Int.add_zero]
              refine q_if_lt (tgt := 87) dX12_thereOf_80 (by decide) (m_ker hkk) (fun h80 => ?_) (fun h80 => ?_)
              · skip
                refine q_iconst dX12_thereOf_87 ?_
                refine q_iadd dX12_thereOf_88 ?_
                refine q_istore_n (lv' := [some (.ref 64), some (q_i t), some (q_i ((z_sum (m_th μ t) k) + 0)), some (q_i k)]) dX12_thereOf_89 (by decide) rfl ?_
                refine q_iinc (lv' := [some (.ref 64), some (q_i t), some (q_i ((z_sum (m_th μ t) k) + 0)), some (q_i (k + 1))]) dX12_thereOf_90 rfl (by decide) rfl ?_
                refine q_goto (tgt := 4) dX12_thereOf_93 (by decide) ?_
                exact q_Jle (q_le_s (rfl) (q_le_s (rfl) (q_le_s (by rw [z_sum_s _ hk0]; unfold m_th; (repeat' split) <;> first | rfl | (exfalso; omega)) (q_le_s (rfl) (q_le_e _))))) (rfl) (rfl) (ih4 (k + 1) (by omega) (by omega) (by omega))
              · skip
                refine q_iconst dX12_thereOf_83 ?_
                refine q_goto (tgt := 88) dX12_thereOf_84 (by decide) ?_
                refine q_iadd dX12_thereOf_88 ?_
                refine q_istore_n (lv' := [some (.ref 64), some (q_i t), some (q_i ((z_sum (m_th μ t) k) + 1)), some (q_i k)]) dX12_thereOf_89 (by decide) rfl ?_
                refine q_iinc (lv' := [some (.ref 64), some (q_i t), some (q_i ((z_sum (m_th μ t) k) + 1)), some (q_i (k + 1))]) dX12_thereOf_90 rfl (by decide) rfl ?_
                refine q_goto (tgt := 4) dX12_thereOf_93 (by decide) ?_
                exact q_Jle (q_le_s (rfl) (q_le_s (rfl) (q_le_s (by rw [z_sum_s _ hk0]; unfold m_th; (repeat' split) <;> first | rfl | (exfalso; omega)) (q_le_s (rfl) (q_le_e _))))) (rfl) (rfl) (ih4 (k + 1) (by omega) (by omega) (by omega))
          · skip
            refine q_iload_n dX12_thereOf_40 rfl ?_
            refine q_iconst dX12_thereOf_41 ?_
            refine q_icmp_ge (tgt := 58) dX12_thereOf_42 (by decide) ⟨by omega, by omega⟩ ⟨by decide, by decide⟩ (fun h42 => ?_) (fun h42 => ?_)
            · skip
              refine q_iconst dX12_thereOf_58 ?_
              refine q_goto (tgt := 88) dX12_thereOf_59 (by decide) ?_
              refine q_iadd dX12_thereOf_88 ?_
              refine q_istore_n (lv' := [some (.ref 64), some (q_i t), some (q_i ((z_sum (m_th μ t) k) + 0)), some (q_i k)]) dX12_thereOf_89 (by decide) rfl ?_
              refine q_iinc (lv' := [some (.ref 64), some (q_i t), some (q_i ((z_sum (m_th μ t) k) + 0)), some (q_i (k + 1))]) dX12_thereOf_90 rfl (by decide) rfl ?_
              refine q_goto (tgt := 4) dX12_thereOf_93 (by decide) ?_
              exact q_Jle (q_le_s (rfl) (q_le_s (rfl) (q_le_s (by rw [z_sum_s _ hk0]; unfold m_th; (repeat' split) <;> first | rfl | (exfalso; omega)) (q_le_s (rfl) (q_le_e _))))) (rfl) (rfl) (ih4 (k + 1) (by omega) (by omega) (by omega))
            · skip
              have hln := hI.ln k hk0 (by omega)
              refine q_aload_n dX12_thereOf_45 rfl ?_
              refine q_get (v := .ref 70) fX12_26_12 rfl rfl dX12_thereOf_46 ?_
              refine q_iload_n dX12_thereOf_49 rfl ?_
              refine q_iald (f := (μ 9)) (n9 := 4) rfl (by omega) (by omega) dX12_thereOf_50 ?_
              refine q_if_lt (tgt := 58) dX12_thereOf_51 (by decide) ⟨by omega, by omega⟩ (fun h51 => ?_) (fun h51 => ?_)
              · skip
                refine q_iconst dX12_thereOf_58 ?_
                refine q_goto (tgt := 88) dX12_thereOf_59 (by decide) ?_
                refine q_iadd dX12_thereOf_88 ?_
                refine q_istore_n (lv' := [some (.ref 64), some (q_i t), some (q_i ((z_sum (m_th μ t) k) + 0)), some (q_i k)]) dX12_thereOf_89 (by decide) rfl ?_
                refine q_iinc (lv' := [some (.ref 64), some (q_i t), some (q_i ((z_sum (m_th μ t) k) + 0)), some (q_i (k + 1))]) dX12_thereOf_90 rfl (by decide) rfl ?_
                refine q_goto (tgt := 4) dX12_thereOf_93 (by decide) ?_
                exact q_Jle (q_le_s (rfl) (q_le_s (rfl) (q_le_s (by rw [z_sum_s _ hk0]; unfold m_th; (repeat' split) <;> first | rfl | (exfalso; omega)) (q_le_s (rfl) (q_le_e _))))) (rfl) (rfl) (ih4 (k + 1) (by omega) (by omega) (by omega))
              · skip
                refine q_iconst dX12_thereOf_54 ?_
                refine q_goto (tgt := 88) dX12_thereOf_55 (by decide) ?_
                refine q_iadd dX12_thereOf_88 ?_
                refine q_istore_n (lv' := [some (.ref 64), some (q_i t), some (q_i ((z_sum (m_th μ t) k) + 1)), some (q_i k)]) dX12_thereOf_89 (by decide) rfl ?_
                refine q_iinc (lv' := [some (.ref 64), some (q_i t), some (q_i ((z_sum (m_th μ t) k) + 1)), some (q_i (k + 1))]) dX12_thereOf_90 rfl (by decide) rfl ?_
                refine q_goto (tgt := 4) dX12_thereOf_93 (by decide) ?_
                exact q_Jle (q_le_s (rfl) (q_le_s (rfl) (q_le_s (by rw [z_sum_s _ hk0]; unfold m_th; (repeat' split) <;> first | rfl | (exfalso; omega)) (q_le_s (rfl) (q_le_e _))))) (rfl) (rfl) (ih4 (k + 1) (by omega) (by omega) (by omega))
        · skip
          have hsz := hI.sz k hk0 (by omega)
          refine q_aload_n dX12_thereOf_17 rfl ?_
          refine q_get (v := .ref 68) fX12_20_12 rfl rfl dX12_thereOf_18 ?_
          refine q_iload_n dX12_thereOf_21 rfl ?_
          refine q_iald (f := (μ 7)) (n9 := 6) rfl (by omega) (by omega) dX12_thereOf_22 ?_
          refine q_if_ge (tgt := 30) dX12_thereOf_23 (by decide) ⟨by omega, by omega⟩ (fun h23 => ?_) (fun h23 => ?_)
          · skip
            refine q_iconst dX12_thereOf_30 ?_
            refine q_goto (tgt := 88) dX12_thereOf_31 (by decide) ?_
            refine q_iadd dX12_thereOf_88 ?_
            refine q_istore_n (lv' := [some (.ref 64), some (q_i t), some (q_i ((z_sum (m_th μ t) k) + 1)), some (q_i k)]) dX12_thereOf_89 (by decide) rfl ?_
            refine q_iinc (lv' := [some (.ref 64), some (q_i t), some (q_i ((z_sum (m_th μ t) k) + 1)), some (q_i (k + 1))]) dX12_thereOf_90 rfl (by decide) rfl ?_
            refine q_goto (tgt := 4) dX12_thereOf_93 (by decide) ?_
            exact q_Jle (q_le_s (rfl) (q_le_s (rfl) (q_le_s (by rw [z_sum_s _ hk0]; unfold m_th; (repeat' split) <;> first | rfl | (exfalso; omega)) (q_le_s (rfl) (q_le_e _))))) (rfl) (rfl) (ih4 (k + 1) (by omega) (by omega) (by omega))
          · skip
            refine q_iconst dX12_thereOf_26 ?_
            refine q_goto (tgt := 88) dX12_thereOf_27 (by decide) ?_
            refine q_iadd dX12_thereOf_88 ?_
            refine q_istore_n (lv' := [some (.ref 64), some (q_i t), some (q_i ((z_sum (m_th μ t) k) + 0)), some (q_i k)]) dX12_thereOf_89 (by decide) rfl ?_
            refine q_iinc (lv' := [some (.ref 64), some (q_i t), some (q_i ((z_sum (m_th μ t) k) + 0)), some (q_i (k + 1))]) dX12_thereOf_90 rfl (by decide) rfl ?_
            refine q_goto (tgt := 4) dX12_thereOf_93 (by decide) ?_
            exact q_Jle (q_le_s (rfl) (q_le_s (rfl) (q_le_s (by rw [z_sum_s _ hk0]; unfold m_th; (repeat' split) <;> first | rfl | (exfalso; omega)) (q_le_s (rfl) (q_le_e _))))) (rfl) (rfl) (ih4 (k + 1) (by omega) (by omega) (by omega))
  exact q_Jle (q_le_s (rfl) (q_le_s (rfl) (q_le_s (rfl) (q_le_s (rfl) (q_le_e _))))) (rfl) (rfl) (L4 ((6 : Int).toNat + 1) 0 (by omega) (by omega) (by omega))
def m_cnt (μ : m_S) (t : Int) : Int := if t = 0 then μ 4 0 else if t = 1 then μ 1 0 else if t = 2 then μ 2 0 else if t = 3 then μ 3 0 else if t = 4 then z_sum (fun c => if 0 < μ 6 c then 1 else 0) (μ 3 0) else if t = 5 then μ 0 0 else if t = 6 then z_sum (fun p => if μ 5 p = 2 ∨ μ 5 p = 5 then 1 else 0) (μ 4 0) else m_there μ t
def m_count_v (μ : m_S) (t : Int) : Int := if 0 ≤ t ∧ t ≤ 9 then m_cnt μ t else -1
def m_findings_v (μ : m_S) (t : Int) : Int := if 1 ≤ t ∧ t ≤ 5 then μ 15 t else -1
set_option maxRecDepth 20000 in
theorem tX12_countOf (w : q_W) (μ : m_S) (t : Int) (ht : q_r t) (ht0 : 0 ≤ t) (hH : m_Sh μ) (hV : m_V μ) (hI : m_I μ) (hK : m_Ke μ) : q_D mX12_countOf 2 [.ref 64, q_i t] (m_w w μ) (some (q_i (m_cnt μ t))) (m_w w μ) := by
  refine q_T.of (lv := [some (.ref 64), some (q_i t)]) (by decide) rfl (Nat.le_of_ble_eq_true rfl) ?_
  refine q_iload_n dX12_countOf_0 rfl ?_
  rcases (show t = 0 ∨ t = 1 ∨ t = 2 ∨ t = 3 ∨ t = 4 ∨ t = 5 ∨ t = 6 ∨ (t < 0 ∨ 6 < t) by omega) with hs1 | hs1 | hs1 | hs1 | hs1 | hs1 | hs1 | hs1
  · skip
    refine q_tabIn (tgt := 44) dX12_countOf_1 ht (by omega) (by omega) (by rw [hs1]; rfl) (by decide) ?_
    refine q_aload_n dX12_countOf_44 rfl ?_
    refine q_get (v := q_i (μ 4 0)) fX12_142_12 rfl rfl dX12_countOf_45 ?_
    exact q_iret rfl dX12_countOf_48 (⟨by (unfold m_cnt; (repeat first | rw [if_pos (by omega)] | rw [if_neg (by omega)])), rfl⟩)
  · skip
    refine q_tabIn (tgt := 49) dX12_countOf_1 ht (by omega) (by omega) (by rw [hs1]; rfl) (by decide) ?_
    refine q_aload_n dX12_countOf_49 rfl ?_
    refine q_get (v := q_i (μ 1 0)) fX12_130_12 rfl rfl dX12_countOf_50 ?_
    exact q_iret rfl dX12_countOf_53 (⟨by (unfold m_cnt; (repeat first | rw [if_pos (by omega)] | rw [if_neg (by omega)])), rfl⟩)
  · skip
    refine q_tabIn (tgt := 54) dX12_countOf_1 ht (by omega) (by omega) (by rw [hs1]; rfl) (by decide) ?_
    refine q_aload_n dX12_countOf_54 rfl ?_
    refine q_get (v := q_i (μ 2 0)) fX12_133_12 rfl rfl dX12_countOf_55 ?_
    exact q_iret rfl dX12_countOf_58 (⟨by (unfold m_cnt; (repeat first | rw [if_pos (by omega)] | rw [if_neg (by omega)])), rfl⟩)
  · skip
    refine q_tabIn (tgt := 59) dX12_countOf_1 ht (by omega) (by omega) (by rw [hs1]; rfl) (by decide) ?_
    refine q_aload_n dX12_countOf_59 rfl ?_
    refine q_get (v := q_i (μ 3 0)) fX12_139_12 rfl rfl dX12_countOf_60 ?_
    exact q_iret rfl dX12_countOf_63 (⟨by (unfold m_cnt; (repeat first | rw [if_pos (by omega)] | rw [if_neg (by omega)])), rfl⟩)
  · skip
    refine q_tabIn (tgt := 64) dX12_countOf_1 ht (by omega) (by omega) (by rw [hs1]; rfl) (by decide) ?_
    refine q_aload_n dX12_countOf_64 rfl ?_
    refine q_cV [] kX12_199_12 rfl (tX12_possible w μ hV) dX12_countOf_65 rfl (by decide) (Nat.le_of_ble_eq_true rfl) rfl ?_
    exact q_iret rfl dX12_countOf_68 (⟨by (unfold m_cnt; (repeat first | rw [if_pos (by omega)] | rw [if_neg (by omega)])), rfl⟩)
  · skip
    refine q_tabIn (tgt := 69) dX12_countOf_1 ht (by omega) (by omega) (by rw [hs1]; rfl) (by decide) ?_
    refine q_aload_n dX12_countOf_69 rfl ?_
    refine q_get (v := .ref 65) fX12_7_12 rfl rfl dX12_countOf_70 ?_
    refine q_iconst dX12_countOf_73 ?_
    refine q_iald (f := (μ 0)) (n9 := 152) rfl (by omega) (by omega) dX12_countOf_74 ?_
    exact q_iret rfl dX12_countOf_75 (⟨by (unfold m_cnt; (repeat first | rw [if_pos (by omega)] | rw [if_neg (by omega)])), rfl⟩)
  · skip
    refine q_tabIn (tgt := 76) dX12_countOf_1 ht (by omega) (by omega) (by rw [hs1]; rfl) (by decide) ?_
    refine q_aload_n dX12_countOf_76 rfl ?_
    refine q_cV [] kX12_268_12 rfl (tX12_anys w μ hH) dX12_countOf_77 rfl (by decide) (Nat.le_of_ble_eq_true rfl) rfl ?_
    exact q_iret rfl dX12_countOf_80 (⟨by (unfold m_cnt; (repeat first | rw [if_pos (by omega)] | rw [if_neg (by omega)])), rfl⟩)
  · skip
    refine q_tabOut (tgt := 81) dX12_countOf_1 ht hs1 (by decide) ?_
    refine q_aload_n dX12_countOf_81 rfl ?_
    refine q_iload_n dX12_countOf_82 rfl ?_
    refine q_cV [q_i t] kX12_271_12 rfl (tX12_thereOf w μ t ht hI hK) dX12_countOf_83 rfl (by decide) (Nat.le_of_ble_eq_true rfl) rfl ?_
    exact q_iret rfl dX12_countOf_86 (⟨by (unfold m_cnt; (repeat first | rw [if_pos (by omega)] | rw [if_neg (by omega)])), rfl⟩)
set_option maxRecDepth 20000 in
theorem tX12_count (w : q_W) (μ : m_S) (t : Int) (ht : q_r t) (hH : m_Sh μ) (hV : m_V μ) (hI : m_I μ) (hK : m_Ke μ) : q_D mX12_count 3 [.ref 64, q_i t] (m_w w μ) (some (q_i (m_count_v μ t))) (m_w w μ) := by
  refine q_T.of (lv := [some (.ref 64), some (q_i t)]) (by decide) rfl (Nat.le_of_ble_eq_true rfl) ?_
  refine q_iload_n dX12_count_0 rfl ?_
  refine q_i2lr dX12_count_1 ht ?_
  refine q_lconst 0 dX12_count_2 ?_
  refine q_ldc2 9 wd_1418 dX12_count_3 ?_
  refine q_cS [q_l t, q_l 0, q_l 9] kX12_57 (tX12_in t 0 9 (⟨by have := (ht).1; omega, by have := (ht).2; omega⟩) (⟨by decide, by decide⟩) (⟨by decide, by decide⟩) (m_w w μ)) dX12_count_6 rfl (by decide) (Nat.le_of_ble_eq_true rfl) rfl ?_
  refine q_ifb_eq (tgt := 20) dX12_count_9 (by decide) (fun h9 => ?_) (fun h9 => ?_)
  · skip
    refine q_iconst dX12_count_20 ?_
    exact q_iret rfl dX12_count_21 (⟨by (unfold m_count_v; (repeat' split) <;> first | rfl | (exfalso; omega)), rfl⟩)
  · skip
    refine q_aload_n dX12_count_12 rfl ?_
    refine q_iload_n dX12_count_13 rfl ?_
    refine q_cV [q_i t] kX12_274_12 rfl (tX12_countOf w μ t ht (by omega) hH hV hI hK) dX12_count_14 rfl (by decide) (Nat.le_of_ble_eq_true rfl) rfl ?_
    refine q_goto (tgt := 21) dX12_count_17 (by decide) ?_
    exact q_iret rfl dX12_count_21 (⟨by (unfold m_count_v; (repeat' split) <;> first | rfl | (exfalso; omega)), rfl⟩)
set_option maxRecDepth 20000 in
theorem tX12_findings (w : q_W) (μ : m_S) (t : Int) (ht : q_r t) : q_D mX12_findings 1 [.ref 64, q_i t] (m_w w μ) (some (q_i (m_findings_v μ t))) (m_w w μ) := by
  refine q_T.of (lv := [some (.ref 64), some (q_i t)]) (by decide) rfl (Nat.le_of_ble_eq_true rfl) ?_
  refine q_iload_n dX12_findings_0 rfl ?_
  refine q_i2lr dX12_findings_1 ht ?_
  refine q_lconst 1 dX12_findings_2 ?_
  refine q_ldc2 5 wd_1097 dX12_findings_3 ?_
  refine q_cS [q_l t, q_l 1, q_l 5] kX12_57 (tX12_in t 1 5 (⟨by have := (ht).1; omega, by have := (ht).2; omega⟩) (⟨by decide, by decide⟩) (⟨by decide, by decide⟩) (m_w w μ)) dX12_findings_6 rfl (by decide) (Nat.le_of_ble_eq_true rfl) rfl ?_
  refine q_ifb_eq (tgt := 21) dX12_findings_9 (by decide) (fun h9 => ?_) (fun h9 => ?_)
  · skip
    refine q_iconst dX12_findings_21 ?_
    exact q_iret rfl dX12_findings_22 (⟨by (unfold m_findings_v; (repeat' split) <;> first | rfl | (exfalso; omega)), rfl⟩)
  · skip
    refine q_aload_n dX12_findings_12 rfl ?_
    refine q_get (v := .ref 72) fX12_36_12 rfl rfl dX12_findings_13 ?_
    refine q_iload_n dX12_findings_16 rfl ?_
    refine q_iald (f := (μ 15)) (n9 := 6) rfl (by omega) (by omega) dX12_findings_17 ?_
    refine q_goto (tgt := 22) dX12_findings_18 (by decide) ?_
    exact q_iret rfl dX12_findings_22 (⟨by (unfold m_findings_v; (repeat' split) <;> first | rfl | (exfalso; omega)), rfl⟩)
set_option maxRecDepth 20000 in
theorem tX12_asked (w : q_W) (μ : m_S) : q_D mX12_asked 0 [.ref 64] (m_w w μ) (some (q_i (μ 11 0))) (m_w w μ) := by
  refine q_T.of (lv := [some (.ref 64)]) (by decide) rfl (Nat.le_of_ble_eq_true rfl) ?_
  refine q_aload_n dX12_asked_0 rfl ?_
  refine q_get (v := q_i (μ 11 0)) fX12_52_12 rfl rfl dX12_asked_1 ?_
  exact q_iret rfl dX12_asked_4 (⟨rfl, rfl⟩)
set_option maxRecDepth 20000 in
theorem tX12_upper (w : q_W) (μ : m_S) : q_D mX12_upper 0 [.ref 64] (m_w w μ) (some (q_l (μ 12 0))) (m_w w μ) := by
  refine q_T.of (lv := [some (.ref 64)]) (by decide) rfl (Nat.le_of_ble_eq_true rfl) ?_
  refine q_aload_n dX12_upper_0 rfl ?_
  refine q_get (v := q_l (μ 12 0)) fX12_216_12 rfl rfl dX12_upper_1 ?_
  exact q_lret rfl dX12_upper_4 (⟨rfl, rfl⟩)
set_option maxRecDepth 20000 in
theorem tX12_lower (w : q_W) (μ : m_S) : q_D mX12_lower 0 [.ref 64] (m_w w μ) (some (q_l (μ 13 0))) (m_w w μ) := by
  refine q_T.of (lv := [some (.ref 64)]) (by decide) rfl (Nat.le_of_ble_eq_true rfl) ?_
  refine q_aload_n dX12_lower_0 rfl ?_
  refine q_get (v := q_l (μ 13 0)) fX12_32_12 rfl rfl dX12_lower_1 ?_
  exact q_lret rfl dX12_lower_4 (⟨rfl, rfl⟩)
set_option maxRecDepth 20000 in
theorem tX12_finding (w : q_W) (μ : m_S) : q_D mX12_finding 0 [.ref 64] (m_w w μ) (some (q_i (μ 14 0))) (m_w w μ) := by
  refine q_T.of (lv := [some (.ref 64)]) (by decide) rfl (Nat.le_of_ble_eq_true rfl) ?_
  refine q_aload_n dX12_finding_0 rfl ?_
  refine q_get (v := q_i (μ 14 0)) fX12_48_12 rfl rfl dX12_finding_1 ?_
  exact q_iret rfl dX12_finding_4 (⟨rfl, rfl⟩)
