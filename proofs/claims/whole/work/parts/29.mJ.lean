/-! the reference: told looks -/
def m_it (μ : m_S) (r j : Int) : Int := μ 8 (40 * r + j)
/-- whether the first k pairs of a row are looks: 1, 0 -/
def m_ok0 (μ : m_S) (r : Int) : Nat → Int
  | 0 => 1
  | k + 1 => if m_ok0 μ r k ≠ 0 ∧ (0 ≤ m_it μ r (2 * k) ∧ m_it μ r (2 * k) ≤ μ 4 0 - 1) ∧ (0 ≤ m_it μ r (2 * k + 1) ∧ m_it μ r (2 * k + 1) ≤ μ 3 0 - 1) then 1 else 0
def m_ok (μ : m_S) (r n : Int) : Int := m_ok0 μ r n.toNat
theorem m_ok_s (μ : m_S) (r : Int) {n : Int} (h : 0 ≤ n) : m_ok μ r (n + 1) = if m_ok μ r n ≠ 0 ∧ (0 ≤ m_it μ r (2 * n) ∧ m_it μ r (2 * n) ≤ μ 4 0 - 1) ∧ (0 ≤ m_it μ r (2 * n + 1) ∧ m_it μ r (2 * n + 1) ≤ μ 3 0 - 1) then 1 else 0 := by
  unfold m_ok
  rw [show (n + 1).toNat = n.toNat + 1 by omega]
  show (if m_ok0 μ r n.toNat ≠ 0 ∧ (0 ≤ m_it μ r (2 * (n.toNat : Int)) ∧ m_it μ r (2 * (n.toNat : Int)) ≤ μ 4 0 - 1) ∧ (0 ≤ m_it μ r (2 * (n.toNat : Int) + 1) ∧ m_it μ r (2 * (n.toNat : Int) + 1) ≤ μ 3 0 - 1) then (1 : Int) else 0) = _
  rw [show (n.toNat : Int) = n by omega]
theorem m_ok_r (μ : m_S) (r n : Int) : m_ok μ r n = 0 ∨ m_ok μ r n = 1 := by
  unfold m_ok
  cases n.toNat with
  | zero => exact Or.inr rfl
  | succ k =>
    show (if _ then (1 : Int) else 0) = 0 ∨ (if _ then (1 : Int) else 0) = 1
    split
    · exact Or.inr rfl
    · exact Or.inl rfl
theorem m_ok_all (μ : m_S) (r : Int) : ∀ n : Nat, m_ok0 μ r n ≠ 0 → ∀ k : Int, 0 ≤ k → k < n → (0 ≤ m_it μ r (2 * k) ∧ m_it μ r (2 * k) ≤ μ 4 0 - 1) ∧ (0 ≤ m_it μ r (2 * k + 1) ∧ m_it μ r (2 * k + 1) ≤ μ 3 0 - 1)
  | 0, _, k, h0, h1 => by omega
  | n + 1, h, k, h0, h1 => by
    have h' : (if m_ok0 μ r n ≠ 0 ∧ (0 ≤ m_it μ r (2 * n) ∧ m_it μ r (2 * n) ≤ μ 4 0 - 1) ∧ (0 ≤ m_it μ r (2 * n + 1) ∧ m_it μ r (2 * n + 1) ≤ μ 3 0 - 1) then (1 : Int) else 0) ≠ 0 := h
    by_cases hc : m_ok0 μ r n ≠ 0 ∧ (0 ≤ m_it μ r (2 * n) ∧ m_it μ r (2 * n) ≤ μ 4 0 - 1) ∧ (0 ≤ m_it μ r (2 * n + 1) ∧ m_it μ r (2 * n + 1) ≤ μ 3 0 - 1)
    · by_cases e : k = n
      · subst e; exact hc.2
      · exact m_ok_all μ r n hc.1 k h0 (by omega)
    · rw [if_neg hc] at h'
      exact absurd rfl h'
theorem m_ok_a {μ : m_S} {r n : Int} (h : m_ok μ r n ≠ 0) {k : Int} (h0 : 0 ≤ k) (h1 : k < n) : (0 ≤ m_it μ r (2 * k) ∧ m_it μ r (2 * k) ≤ μ 4 0 - 1) ∧ (0 ≤ m_it μ r (2 * k + 1) ∧ m_it μ r (2 * k + 1) ≤ μ 3 0 - 1) := m_ok_all μ r n.toNat h k h0 (by omega)
/-- the weight of a code by the first k told looks -/
def m_tw (μ : m_S) (r c k : Int) : Int := z_prod (fun i => m_ways μ (m_it μ r (2 * i)) c (m_it μ r (2 * i + 1))) k
def m_tlf (μ : m_S) (r n c : Int) : Int → Int := fun j => if 0 ≤ j ∧ j < c then m_tw μ r j n else μ 24 j
theorem m_tlf_0 (μ : m_S) (r n : Int) : m_tlf μ r n 0 = μ 24 := by
  funext j
  unfold m_tlf
  rw [if_neg (by omega)]
theorem m_tlf_s (μ : m_S) (r n : Int) {c : Int} (h : 0 ≤ c) : q_us (m_tlf μ r n c) c (m_tw μ r c n) = m_tlf μ r n (c + 1) := by
  funext j
  unfold q_us m_tlf
  by_cases e : j = c
  · rw [if_pos e, if_pos (by omega), e]
  · rw [if_neg e]
    by_cases h2 : 0 ≤ j ∧ j < c
    · rw [if_pos h2, if_pos (by omega)]
    · rw [if_neg h2, if_neg (by omega)]
theorem m_tw_s (μ : m_S) (r c : Int) {k : Int} (h : 0 ≤ k) : m_tw μ r c (k + 1) = m_tw μ r c k * m_ways μ (m_it μ r (2 * k)) c (m_it μ r (2 * k + 1)) := z_prod_s _ h
theorem z_p_b (f : Int → Int) {b : Int} (hb : 0 ≤ b) : ∀ k : Nat, (∀ j : Int, 0 ≤ j → j < k → 0 ≤ f j ∧ f j ≤ b) → 0 ≤ z_p f k ∧ z_p f k ≤ z_p (fun _ => b) k
  | 0, _ => ⟨by show (0 : Int) ≤ 1; decide, Int.le_refl _⟩
  | k + 1, h => z_mul2 (z_p_b f hb k (fun j h0 h1 => h j h0 (by omega))) (h k (by omega) (by omega))
theorem m_tw_r {μ : m_S} (hG : m_G μ) (r c : Int) {k : Int} (hk : k ≤ 6) : 0 ≤ m_tw μ r c k ∧ m_tw μ r c k ≤ 4294967296 := by
  have h := z_p_b (fun i => m_ways μ (m_it μ r (2 * i)) c (m_it μ r (2 * i + 1))) (b := 4) (by decide) k.toNat (fun j _ _ => m_ways_r hG _ _ _)
  have h2 := z_p4 k.toNat (by omega)
  exact ⟨h.1, Int.le_trans h.2 h2⟩
def m_np (μ : m_S) (r : Int) : Int := (μ 7 r).tdiv 2
def m_nl_v (μ : m_S) (r : Int) : Int := if μ 4 0 = 0 then -4 else if μ 7 r < 0 then -3 else if (μ 7 r).tmod 2 ≠ 0 then -3 else if 12 < μ 7 r then -3 else if m_ok μ r (m_np μ r) ≠ 0 then 0 else -3
def m_nl_s (μ : m_S) (r : Int) : m_S := if μ 4 0 = 0 then μ else if μ 7 r < 0 then m_find μ 1 else if (μ 7 r).tmod 2 ≠ 0 then m_find μ 5 else if 12 < μ 7 r then m_find μ 5 else if m_ok μ r (m_np μ r) ≠ 0 then m_u μ 24 (m_tlf μ r (m_np μ r) (μ 3 0)) else m_find μ 3
theorem z_half {x : Int} (h0 : 0 ≤ x) (h : x.tmod 2 = 0) : x = 2 * x.tdiv 2 := by
  have := Int.tdiv_mul_add_tmod x 2
  omega
set_option maxRecDepth 20000 in
theorem tX12_noLooks (w : q_W) (μ : m_S) (r : Int) (hr0 : 0 ≤ r) (hr5 : r ≤ 5) (hH : m_Sh μ) (hI : m_I μ) : q_D mX12_noLooks 5 [.ref 64, q_i r] (m_w w μ) (some (q_i (m_nl_v μ r))) (m_w w (m_nl_s μ r)) := by
  refine q_T.of (lv := [some (.ref 64), some (q_i r), none, none, none]) (by decide) rfl (Nat.le_of_ble_eq_true rfl) ?_
  have hb := hH.b
  have hsz := hI.sz r hr0 hr5
  refine q_aload_n dX12_noLooks_0 rfl ?_
  refine q_get (v := q_i (μ 4 0)) fX12_142_12 rfl rfl dX12_noLooks_1 ?_
  refine q_if_ne (tgt := 10) dX12_noLooks_4 (by decide) ⟨by omega, by omega⟩ (fun h4 => ?_) (fun h4 => ?_)
  · skip
    have hG := hH.g (by omega)
    have hS := hG.S
    have hW := hG.1
    refine q_aload_n dX12_noLooks_10 rfl ?_
    refine q_get (v := .ref 68) fX12_20_12 rfl rfl dX12_noLooks_11 ?_
    refine q_iload_n dX12_noLooks_14 rfl ?_
    refine q_iald (f := (μ 7)) (n9 := 6) rfl (by omega) (by omega) dX12_noLooks_15 ?_
    refine q_if_ge (tgt := 25) dX12_noLooks_16 (by decide) ⟨by omega, by omega⟩ (fun h16 => ?_) (fun h16 => ?_)
    · skip
      have htm0 := Int.tmod_nonneg 2 (show 0 ≤ μ 7 r by omega)
      have htm1 := Int.tmod_lt_of_pos (μ 7 r) (show (0 : Int) < 2 by decide)
      refine q_aload_n dX12_noLooks_25 rfl ?_
      refine q_get (v := .ref 68) fX12_20_12 rfl rfl dX12_noLooks_26 ?_
      refine q_iload_n dX12_noLooks_29 rfl ?_
      refine q_iald (f := (μ 7)) (n9 := 6) rfl (by omega) (by omega) dX12_noLooks_30 ?_
      refine q_iconst dX12_noLooks_31 ?_
      refine q_irem dX12_noLooks_32 ⟨by omega, by omega⟩ ⟨by decide, by decide⟩ (by decide) (by omega) ?_
      refine q_if_ne (tgt := 47) dX12_noLooks_33 (by decide) ⟨by omega, by omega⟩ (fun h33 => ?_) (fun h33 => ?_)
      · skip
        refine q_aload_n dX12_noLooks_47 rfl ?_
        refine q_iconst dX12_noLooks_48 ?_
        refine q_cV [q_i 5] kX12_67_12 rfl (tX12_find w μ 5 (by decide) (by decide)) dX12_noLooks_49 rfl (by decide) (Nat.le_of_ble_eq_true rfl) rfl ?_
        exact q_iret rfl dX12_noLooks_52 (⟨by unfold m_nl_v; (repeat first | rw [if_pos (by omega)] | rw [if_neg (by omega)]), by unfold m_nl_s; (repeat first | rw [if_pos (by omega)] | rw [if_neg (by omega)])⟩)
      · skip
        refine q_aload_n dX12_noLooks_36 rfl ?_
        refine q_get (v := .ref 68) fX12_20_12 rfl rfl dX12_noLooks_37 ?_
        refine q_iload_n dX12_noLooks_40 rfl ?_
        refine q_iald (f := (μ 7)) (n9 := 6) rfl (by omega) (by omega) dX12_noLooks_41 ?_
        refine q_bipush dX12_noLooks_42 ?_
        refine q_icmp_le (tgt := 53) dX12_noLooks_44 (by decide) ⟨by omega, by omega⟩ ⟨by decide, by decide⟩ (fun h44 => ?_) (fun h44 => ?_)
        · skip
          have hnp : μ 7 r = 2 * m_np μ r := z_half (by omega) (by omega)
          refine q_iconst dX12_noLooks_53 ?_
          refine q_istore_n (lv' := [some (.ref 64), some (q_i r), some (q_i 1), none, none]) dX12_noLooks_54 (by decide) rfl ?_
          refine q_bipush dX12_noLooks_55 ?_
          refine q_iload_n dX12_noLooks_57 rfl ?_
          refine q_imul dX12_noLooks_58 ?_
          refine q_istore_n (lv' := [some (.ref 64), some (q_i r), some (q_i 1), some (q_i (40 * r)), none]) dX12_noLooks_59 (by decide) rfl ?_
          have L60 : ∀ (m9 : Nat) (i : Int) (hi0 : 0 ≤ i) (hi1 : i ≤ m_np μ r) (hm9 : m_np μ r - i < (m9 : Int)), q_J mX12_noLooks 5 (fun v' w' => v' = (some (q_i (m_nl_v μ r))) ∧ w' = (m_w w (m_nl_s μ r))) 0 0 60 [some (.ref 64), some (q_i r), some (q_i (m_ok μ r i)), some (q_i (40 * r + 2 * i)), none] [] (m_w w μ) := by
            intro m9
            induction m9 with
            | zero => intro i hi0 hi1 hm9; exact absurd hm9 (by omega)
            | succ m9 ih60 =>
              intro i hi0 hi1 hm9
              refine q_iload_n dX12_noLooks_60 rfl ?_
              refine q_bipush dX12_noLooks_61 ?_
              refine q_iload_n dX12_noLooks_63 rfl ?_
              refine q_imul dX12_noLooks_64 ?_
              refine q_aload_n dX12_noLooks_65 rfl ?_
              refine q_get (v := .ref 68) fX12_20_12 rfl rfl dX12_noLooks_66 ?_
              refine q_iload_n dX12_noLooks_69 rfl ?_
              refine q_iald (f := (μ 7)) (n9 := 6) rfl (by omega) (by omega) dX12_noLooks_70 ?_
              refine q_iadd dX12_noLooks_71 ?_
              refine q_icmp_ge (tgt := 119) dX12_noLooks_72 (by decide) ⟨by omega, by omega⟩ ⟨by omega, by omega⟩ (fun h72 => ?_) (fun h72 => ?_)
              · skip
                have hie : i = m_np μ r := by omega
                subst hie
                refine q_Jle (lv' := [some (.ref 64), some (q_i r), some (q_i (m_ok μ r (m_np μ r))), none, none]) (q_le_s rfl (q_le_s rfl (q_le_s rfl (q_le_n (q_le_n (q_le_e _)))))) rfl rfl ?_
                refine q_iconst dX12_noLooks_119 ?_
                refine q_istore_n (lv' := [some (.ref 64), some (q_i r), some (q_i (m_ok μ r (m_np μ r))), some (q_i 0), none]) dX12_noLooks_120 (by decide) rfl ?_
                have L121 : ∀ (m9 : Nat) (c : Int) (hc0 : 0 ≤ c) (hc1 : c ≤ μ 3 0) (hcz : m_ok μ r (m_np μ r) = 0 → c = 0) (hm9 : μ 3 0 - c < (m9 : Int)), q_J mX12_noLooks 5 (fun v' w' => v' = (some (q_i (m_nl_v μ r))) ∧ w' = (m_w w (m_nl_s μ r))) 0 0 121 [some (.ref 64), some (q_i r), some (q_i (m_ok μ r (m_np μ r))), some (q_i c), none] [] (m_w w (m_u μ 24 (m_tlf μ r (m_np μ r) c))) := by
                  intro m9
                  induction m9 with
                  | zero => intro c hc0 hc1 hcz hm9; exact absurd hm9 (by omega)
                  | succ m9 ih121 =>
                    intro c hc0 hc1 hcz hm9
                    refine q_iload_n dX12_noLooks_121 rfl ?_
                    refine q_aload_n dX12_noLooks_122 rfl ?_
                    refine q_get (v := q_i (μ 3 0)) fX12_139_12 rfl rfl dX12_noLooks_123 ?_
                    refine q_icmp_ge (tgt := 205) dX12_noLooks_126 (by decide) ⟨by omega, by omega⟩ ⟨by omega, by omega⟩ (fun h126 => ?_) (fun h126 => ?_)
                    · skip
                      refine q_iload_n dX12_noLooks_205 rfl ?_
                      refine q_if_eq (tgt := 213) dX12_noLooks_206 (by decide) ⟨by have := m_ok_r μ r (m_np μ r); omega, by have := m_ok_r μ r (m_np μ r); omega⟩ (fun h206 => False.elim (by have := hcz h206; omega)) (fun h206 => ?_)
                      refine q_iconst dX12_noLooks_209 ?_
                      refine q_goto (tgt := 218) dX12_noLooks_210 (by decide) ?_
                      exact q_iret rfl dX12_noLooks_218 (⟨by unfold m_nl_v; (repeat first | rw [if_pos (by omega)] | rw [if_neg (by omega)]), by rw [show c = μ 3 0 by omega]; unfold m_nl_s; (repeat first | rw [if_pos (by omega)] | rw [if_neg (by omega)])⟩)
                    · skip
                      refine q_iload_n dX12_noLooks_129 rfl ?_
                      refine q_if_eq (tgt := 205) dX12_noLooks_130 (by decide) ⟨by have := m_ok_r μ r (m_np μ r); omega, by have := m_ok_r μ r (m_np μ r); omega⟩ (fun h130 => ?_) (fun h130 => ?_)
                      · skip
                        refine q_iload_n dX12_noLooks_205 rfl ?_
                        refine q_if_eq (tgt := 213) dX12_noLooks_206 (by decide) ⟨by have := m_ok_r μ r (m_np μ r); omega, by have := m_ok_r μ r (m_np μ r); omega⟩ (fun h206 => ?_) (fun h206 => False.elim (h206 h130))
                        rw [hcz (by omega), m_tlf_0, show m_u μ 24 (μ 24) = μ from m_uid μ 24]
                        refine q_aload_n dX12_noLooks_213 rfl ?_
                        refine q_iconst dX12_noLooks_214 ?_
                        refine q_cV [q_i 3] kX12_67_12 rfl (tX12_find w μ 3 (by decide) (by decide)) dX12_noLooks_215 rfl (by decide) (Nat.le_of_ble_eq_true rfl) rfl ?_
                        exact q_iret rfl dX12_noLooks_218 (⟨by unfold m_nl_v; (repeat first | rw [if_pos (by omega)] | rw [if_neg (by omega)]), by unfold m_nl_s; (repeat first | rw [if_pos (by omega)] | rw [if_neg (by omega)])⟩)
                      · skip
                        have hpaa := fun k h0 h1 => m_ok_a (μ := μ) (r := r) (n := m_np μ r) h130 (k := k) h0 h1
                        refine q_aload_n dX12_noLooks_133 rfl ?_
                        refine q_get (v := .ref 75) fX12_45_12 rfl rfl dX12_noLooks_134 ?_
                        refine q_iload_n dX12_noLooks_137 rfl ?_
                        refine q_lconst 1 dX12_noLooks_138 ?_
                        refine q_last (f := (m_tlf μ r (m_np μ r) c)) (n9 := 216) rfl (by omega) (by omega) dX12_noLooks_139 ?_
                        rw [m_a24]
                        refine q_bipush dX12_noLooks_140 ?_
                        refine q_iload_n dX12_noLooks_142 rfl ?_
                        refine q_imul dX12_noLooks_143 ?_
                        refine q_istore (lv' := [some (.ref 64), some (q_i r), some (q_i (m_ok μ r (m_np μ r))), some (q_i c), some (q_i (40 * r))]) dX12_noLooks_144 (by decide) rfl ?_
                        have L146 : ∀ (m9 : Nat) (i : Int) (hi0 : 0 ≤ i) (hi1 : i ≤ m_np μ r) (hm9 : m_np μ r - i < (m9 : Int)), q_J mX12_noLooks 5 (fun v' w' => v' = (some (q_i (m_nl_v μ r))) ∧ w' = (m_w w (m_nl_s μ r))) 0 0 146 [some (.ref 64), some (q_i r), some (q_i (m_ok μ r (m_np μ r))), some (q_i c), some (q_i (40 * r + 2 * i))] [] (m_w w (m_u μ 24 (q_us (m_tlf μ r (m_np μ r) c) c (m_tw μ r c i)))) := by
                          intro m9
                          induction m9 with
                          | zero => intro i hi0 hi1 hm9; exact absurd hm9 (by omega)
                          | succ m9 ih146 =>
                            intro i hi0 hi1 hm9
                            refine q_iload dX12_noLooks_146 rfl ?_
                            refine q_bipush dX12_noLooks_148 ?_
                            refine q_iload_n dX12_noLooks_150 rfl ?_
                            refine q_imul dX12_noLooks_151 ?_
                            refine q_aload_n dX12_noLooks_152 rfl ?_
                            refine q_get (v := .ref 68) fX12_20_12 rfl rfl dX12_noLooks_153 ?_
                            refine q_iload_n dX12_noLooks_156 rfl ?_
                            refine q_iald (f := (μ 7)) (n9 := 6) rfl (by omega) (by omega) dX12_noLooks_157 ?_
                            refine q_iadd dX12_noLooks_158 ?_
                            refine q_icmp_ge (tgt := 199) dX12_noLooks_159 (by decide) ⟨by omega, by omega⟩ ⟨by omega, by omega⟩ (fun h159 => ?_) (fun h159 => ?_)
                            · skip
                              refine q_iinc (lv' := [some (.ref 64), some (q_i r), some (q_i (m_ok μ r (m_np μ r))), some (q_i (c + 1)), some (q_i (40 * r + 2 * i))]) dX12_noLooks_199 rfl (by decide) rfl ?_
                              refine q_goto (tgt := 121) dX12_noLooks_202 (by decide) ?_
                              exact q_Jle (q_le_s (rfl) (q_le_s (rfl) (q_le_s (rfl) (q_le_s (rfl) (q_le_n (q_le_e _)))))) (rfl) (by rw [show i = m_np μ r by omega, m_tlf_s _ _ _ hc0]) (ih121 (c + 1) (by omega) (by omega) (fun q => absurd q h130) (by omega))
                            · skip
                              have hpa := hpaa i hi0 (by omega)
                              refine q_aload_n dX12_noLooks_162 rfl ?_
                              refine q_get (v := .ref 75) fX12_45_12 rfl rfl dX12_noLooks_163 ?_
                              refine q_iload_n dX12_noLooks_166 rfl ?_
                              refine q_dup2 dX12_noLooks_167 rfl rfl ?_
                              refine q_lald (f := (q_us (m_tlf μ r (m_np μ r) c) c (m_tw μ r c i))) (n9 := 216) rfl (by omega) (by omega) dX12_noLooks_168 ?_
                              rw [q_us_s]
                              refine q_aload_n dX12_noLooks_169 rfl ?_
                              refine q_aload_n dX12_noLooks_170 rfl ?_
                              refine q_get (v := .ref 69) fX12_23_12 rfl rfl dX12_noLooks_171 ?_
                              refine q_iload dX12_noLooks_174 rfl ?_
                              refine q_iald (f := (μ 8)) (n9 := 240) rfl (by omega) (by omega) dX12_noLooks_176 ?_
                              show q_J _ _ _ _ _ _ _ [q_i (m_it μ r (2 * i)), .ref 64, q_l (m_tw μ r c i), q_i c, .ref 75] _
                              refine q_iload_n dX12_noLooks_177 rfl ?_
                              refine q_aload_n dX12_noLooks_178 rfl ?_
                              refine q_get (v := .ref 69) fX12_23_12 rfl rfl dX12_noLooks_179 ?_
                              refine q_iload dX12_noLooks_182 rfl ?_
                              refine q_iconst dX12_noLooks_184 ?_
                              refine q_iadd dX12_noLooks_185 ?_
                              refine q_iald (f := (μ 8)) (n9 := 240) rfl (by omega) (by omega) dX12_noLooks_186 ?_
                              rw [Int.add_assoc]
                              show q_J _ _ _ _ _ _ _ [q_i (m_it μ r (2 * i + 1)), q_i c, q_i (m_it μ r (2 * i)), .ref 64, q_l (m_tw μ r c i), q_i c, .ref 75] _
                              refine q_cV [q_i (m_it μ r (2 * i)), q_i c, q_i (m_it μ r (2 * i + 1))] kX12_170_12 rfl (tX12_waysOf w (m_u μ 24 (q_us (m_tlf μ r (m_np μ r) c) c (m_tw μ r c i))) (m_it μ r (2 * i)) c (m_it μ r (2 * i + 1)) hpa.1.1 (show _ < μ 4 0 by have := hpa.1.2; omega) hc0 (show c < μ 3 0 by omega) hpa.2.1 (show _ < μ 3 0 by have := hpa.2.2; omega) hG) dX12_noLooks_187 rfl (by decide) (Nat.le_of_ble_eq_true rfl) rfl ?_
                              show q_J _ _ _ _ _ _ _ [q_i (m_ways μ (m_it μ r (2 * i)) c (m_it μ r (2 * i + 1))), q_l (m_tw μ r c i), q_i c, .ref 75] (m_w w (m_u μ 24 (q_us (m_tlf μ r (m_np μ r) c) c (m_tw μ r c i))))
                              refine q_i2lr dX12_noLooks_190 ⟨by have := m_ways_r hG (m_it μ r (2 * i)) c (m_it μ r (2 * i + 1)); omega, by have := m_ways_r hG (m_it μ r (2 * i)) c (m_it μ r (2 * i + 1)); omega⟩ ?_
                              refine q_lmul dX12_noLooks_191 ?_
                              refine q_last (f := (q_us (m_tlf μ r (m_np μ r) c) c (m_tw μ r c i))) (n9 := 216) rfl (by omega) (by omega) dX12_noLooks_192 ?_
                              rw [m_a24]
                              refine q_iinc (lv' := [some (.ref 64), some (q_i r), some (q_i (m_ok μ r (m_np μ r))), some (q_i c), some (q_i ((40 * r + 2 * i) + 2))]) dX12_noLooks_193 rfl (by decide) rfl ?_
                              refine q_goto (tgt := 146) dX12_noLooks_196 (by decide) ?_
                              exact q_Jle (q_le_s (rfl) (q_le_s (rfl) (q_le_s (rfl) (q_le_s (rfl) (q_le_s (by rw [show 40 * r + 2 * i + 2 = 40 * r + 2 * (i + 1) by omega]) (q_le_e _)))))) (rfl) (by rw [m_uu, q_us_us, m_tw_s _ _ _ hi0]) (ih146 (i + 1) (by omega) (by omega) (by omega))
                        exact q_Jle (q_le_s (rfl) (q_le_s (rfl) (q_le_s (rfl) (q_le_s (rfl) (q_le_s (by rw [Int.mul_zero, Int.add_zero]) (q_le_e _)))))) (rfl) (by rw [m_uu]; rfl) (L146 ((m_np μ r : Int).toNat + 1) 0 (by omega) (by omega) (by omega))
                exact q_Jle (q_le_s (rfl) (q_le_s (rfl) (q_le_s (rfl) (q_le_s (rfl) (q_le_n (q_le_e _)))))) (rfl) (by rw [m_tlf_0]; exact (congrArg (m_w w) (m_uid _ 24)).symm) (L121 ((μ 3 0 : Int).toNat + 1) 0 (by omega) (by omega) (fun _ => rfl) (by omega))
              · skip
                refine q_iload_n dX12_noLooks_75 rfl ?_
                refine q_if_eq (tgt := 111) dX12_noLooks_76 (by decide) ⟨by have := m_ok_r μ r i; omega, by have := m_ok_r μ r i; omega⟩ (fun h76 => ?_) (fun h76 => ?_)
                · skip
                  refine q_iconst dX12_noLooks_111 ?_
                  refine q_istore_n (lv' := [some (.ref 64), some (q_i r), some (q_i 0), some (q_i (40 * r + 2 * i)), none]) dX12_noLooks_112 (by decide) rfl ?_
                  refine q_iinc (lv' := [some (.ref 64), some (q_i r), some (q_i 0), some (q_i ((40 * r + 2 * i) + 2)), none]) dX12_noLooks_113 rfl (by decide) rfl ?_
                  refine q_goto (tgt := 60) dX12_noLooks_116 (by decide) ?_
                  exact q_Jle (q_le_s (rfl) (q_le_s (rfl) (q_le_s (by rw [m_ok_s _ _ hi0]; (repeat' split) <;> first | rfl | (exfalso; omega)) (q_le_s (by rw [show 40 * r + 2 * i + 2 = 40 * r + 2 * (i + 1) by omega]) (q_le_n (q_le_e _)))))) (rfl) (rfl) (ih60 (i + 1) (by omega) (by omega) (by omega))
                · skip
                  refine q_aload_n dX12_noLooks_79 rfl ?_
                  refine q_aload_n dX12_noLooks_80 rfl ?_
                  refine q_get (v := .ref 69) fX12_23_12 rfl rfl dX12_noLooks_81 ?_
                  refine q_iload_n dX12_noLooks_84 rfl ?_
                  refine q_iald (f := (μ 8)) (n9 := 240) rfl (by omega) (by omega) dX12_noLooks_85 ?_
                  show q_J _ _ _ _ _ _ _ [q_i (m_it μ r (2 * i)), .ref 64] _
                  refine q_cV [q_i (m_it μ r (2 * i))] kX12_183_12 rfl (tX12_isPerson w μ (m_it μ r (2 * i)) ((hI.it _)) (by omega) (by omega)) dX12_noLooks_86 rfl (by decide) (Nat.le_of_ble_eq_true rfl) rfl ?_
                  refine q_ifb_eq (tgt := 111) dX12_noLooks_89 (by decide) (fun h89 => ?_) (fun h89 => ?_)
                  · skip
                    refine q_iconst dX12_noLooks_111 ?_
                    refine q_istore_n (lv' := [some (.ref 64), some (q_i r), some (q_i 0), some (q_i (40 * r + 2 * i)), none]) dX12_noLooks_112 (by decide) rfl ?_
                    refine q_iinc (lv' := [some (.ref 64), some (q_i r), some (q_i 0), some (q_i ((40 * r + 2 * i) + 2)), none]) dX12_noLooks_113 rfl (by decide) rfl ?_
                    refine q_goto (tgt := 60) dX12_noLooks_116 (by decide) ?_
                    exact q_Jle (q_le_s (rfl) (q_le_s (rfl) (q_le_s (by rw [m_ok_s _ _ hi0]; (repeat' split) <;> first | rfl | (exfalso; omega)) (q_le_s (by rw [show 40 * r + 2 * i + 2 = 40 * r + 2 * (i + 1) by omega]) (q_le_n (q_le_e _)))))) (rfl) (rfl) (ih60 (i + 1) (by omega) (by omega) (by omega))
                  · skip
                    refine q_aload_n dX12_noLooks_92 rfl ?_
                    refine q_aload_n dX12_noLooks_93 rfl ?_
                    refine q_get (v := .ref 69) fX12_23_12 rfl rfl dX12_noLooks_94 ?_
                    refine q_iload_n dX12_noLooks_97 rfl ?_
                    refine q_iconst dX12_noLooks_98 ?_
                    refine q_iadd dX12_noLooks_99 ?_
                    refine q_iald (f := (μ 8)) (n9 := 240) rfl (by omega) (by omega) dX12_noLooks_100 ?_
                    rw [Int.add_assoc]
                    show q_J _ _ _ _ _ _ _ [q_i (m_it μ r (2 * i + 1)), .ref 64] _
                    refine q_cV [q_i (m_it μ r (2 * i + 1))] kX12_205_12 rfl (tX12_isSetting w μ (m_it μ r (2 * i + 1)) ((hI.it _)) (by omega) (by omega)) dX12_noLooks_101 rfl (by decide) (Nat.le_of_ble_eq_true rfl) rfl ?_
                    refine q_ifb_eq (tgt := 111) dX12_noLooks_104 (by decide) (fun h104 => ?_) (fun h104 => ?_)
                    · skip
                      refine q_iconst dX12_noLooks_111 ?_
                      refine q_istore_n (lv' := [some (.ref 64), some (q_i r), some (q_i 0), some (q_i (40 * r + 2 * i)), none]) dX12_noLooks_112 (by decide) rfl ?_
                      refine q_iinc (lv' := [some (.ref 64), some (q_i r), some (q_i 0), some (q_i ((40 * r + 2 * i) + 2)), none]) dX12_noLooks_113 rfl (by decide) rfl ?_
                      refine q_goto (tgt := 60) dX12_noLooks_116 (by decide) ?_
                      exact q_Jle (q_le_s (rfl) (q_le_s (rfl) (q_le_s (by rw [m_ok_s _ _ hi0]; (repeat' split) <;> first | rfl | (exfalso; omega)) (q_le_s (by rw [show 40 * r + 2 * i + 2 = 40 * r + 2 * (i + 1) by omega]) (q_le_n (q_le_e _)))))) (rfl) (rfl) (ih60 (i + 1) (by omega) (by omega) (by omega))
                    · skip
                      refine q_iconst dX12_noLooks_107 ?_
                      refine q_goto (tgt := 112) dX12_noLooks_108 (by decide) ?_
                      refine q_istore_n (lv' := [some (.ref 64), some (q_i r), some (q_i 1), some (q_i (40 * r + 2 * i)), none]) dX12_noLooks_112 (by decide) rfl ?_
                      refine q_iinc (lv' := [some (.ref 64), some (q_i r), some (q_i 1), some (q_i ((40 * r + 2 * i) + 2)), none]) dX12_noLooks_113 rfl (by decide) rfl ?_
                      refine q_goto (tgt := 60) dX12_noLooks_116 (by decide) ?_
                      exact q_Jle (q_le_s (rfl) (q_le_s (rfl) (q_le_s (by rw [m_ok_s _ _ hi0]; (repeat' split) <;> first | rfl | (exfalso; omega)) (q_le_s (by rw [show 40 * r + 2 * i + 2 = 40 * r + 2 * (i + 1) by omega]) (q_le_n (q_le_e _)))))) (rfl) (rfl) (ih60 (i + 1) (by omega) (by omega) (by omega))
          exact q_Jle (q_le_s (rfl) (q_le_s (rfl) (q_le_s (rfl) (q_le_s (by rw [Int.mul_zero, Int.add_zero]) (q_le_n (q_le_e _)))))) (rfl) (rfl) (L60 ((m_np μ r : Int).toNat + 1) 0 (by omega) (by omega) (by omega))
        · skip
          refine q_aload_n dX12_noLooks_47 rfl ?_
          refine q_iconst dX12_noLooks_48 ?_
          refine q_cV [q_i 5] kX12_67_12 rfl (tX12_find w μ 5 (by decide) (by decide)) dX12_noLooks_49 rfl (by decide) (Nat.le_of_ble_eq_true rfl) rfl ?_
          exact q_iret rfl dX12_noLooks_52 (⟨by unfold m_nl_v; (repeat first | rw [if_pos (by omega)] | rw [if_neg (by omega)]), by unfold m_nl_s; (repeat first | rw [if_pos (by omega)] | rw [if_neg (by omega)])⟩)
    · skip
      refine q_aload_n dX12_noLooks_19 rfl ?_
      refine q_iconst dX12_noLooks_20 ?_
      refine q_cV [q_i 1] kX12_67_12 rfl (tX12_find w μ 1 (by decide) (by decide)) dX12_noLooks_21 rfl (by decide) (Nat.le_of_ble_eq_true rfl) rfl ?_
      exact q_iret rfl dX12_noLooks_24 (⟨by unfold m_nl_v; (repeat first | rw [if_pos (by omega)] | rw [if_neg (by omega)]), by unfold m_nl_s; (repeat first | rw [if_pos (by omega)] | rw [if_neg (by omega)])⟩)
  · skip
    refine q_bipush dX12_noLooks_7 ?_
    exact q_iret rfl dX12_noLooks_9 (⟨by unfold m_nl_v; (repeat first | rw [if_pos (by omega)] | rw [if_neg (by omega)]), by unfold m_nl_s; (repeat first | rw [if_pos (by omega)] | rw [if_neg (by omega)])⟩)
