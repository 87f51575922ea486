/-! the reference: whose, sights, who, counts -/
/-- of 0 .. k the first whose f by g is greatest (least) -/
def z_hm (f g : Int → Int) : Nat → Int
  | 0 => 0
  | k + 1 => if f (z_hm f g k) * g ((k : Int) + 1) < f ((k : Int) + 1) * g (z_hm f g k) then (k : Int) + 1 else z_hm f g k
def z_hl (f g : Int → Int) : Nat → Int
  | 0 => 0
  | k + 1 => if f ((k : Int) + 1) * g (z_hl f g k) < f (z_hl f g k) * g ((k : Int) + 1) then (k : Int) + 1 else z_hl f g k
def z_most (f g : Int → Int) (n : Int) : Int := z_hm f g n.toNat
def z_least (f g : Int → Int) (n : Int) : Int := z_hl f g n.toNat
theorem z_most_s (f g : Int → Int) {n : Int} (h : 0 ≤ n) : z_most f g (n + 1) = if f (z_most f g n) * g (n + 1) < f (n + 1) * g (z_most f g n) then n + 1 else z_most f g n := by
  unfold z_most
  rw [show (n + 1).toNat = n.toNat + 1 by omega]
  show (if f (z_hm f g n.toNat) * g ((n.toNat : Int) + 1) < f ((n.toNat : Int) + 1) * g (z_hm f g n.toNat) then (n.toNat : Int) + 1 else z_hm f g n.toNat) = _
  rw [show (n.toNat : Int) = n by omega]
theorem z_least_s (f g : Int → Int) {n : Int} (h : 0 ≤ n) : z_least f g (n + 1) = if f (n + 1) * g (z_least f g n) < f (z_least f g n) * g (n + 1) then n + 1 else z_least f g n := by
  unfold z_least
  rw [show (n + 1).toNat = n.toNat + 1 by omega]
  show (if f ((n.toNat : Int) + 1) * g (z_hl f g n.toNat) < f (z_hl f g n.toNat) * g ((n.toNat : Int) + 1) then (n.toNat : Int) + 1 else z_hl f g n.toNat) = _
  rw [show (n.toNat : Int) = n by omega]
theorem z_hm_r (f g : Int → Int) : ∀ k : Nat, 0 ≤ z_hm f g k ∧ z_hm f g k ≤ k
  | 0 => ⟨Int.le_refl 0, Int.le_refl 0⟩
  | k + 1 => by
    have h := z_hm_r f g k
    show 0 ≤ (if f (z_hm f g k) * g ((k : Int) + 1) < f ((k : Int) + 1) * g (z_hm f g k) then (k : Int) + 1 else z_hm f g k) ∧ (if f (z_hm f g k) * g ((k : Int) + 1) < f ((k : Int) + 1) * g (z_hm f g k) then (k : Int) + 1 else z_hm f g k) ≤ ((k + 1 : Nat) : Int)
    split <;> omega
theorem z_hl_r (f g : Int → Int) : ∀ k : Nat, 0 ≤ z_hl f g k ∧ z_hl f g k ≤ k
  | 0 => ⟨Int.le_refl 0, Int.le_refl 0⟩
  | k + 1 => by
    have h := z_hl_r f g k
    show 0 ≤ (if f ((k : Int) + 1) * g (z_hl f g k) < f (z_hl f g k) * g ((k : Int) + 1) then (k : Int) + 1 else z_hl f g k) ∧ (if f ((k : Int) + 1) * g (z_hl f g k) < f (z_hl f g k) * g ((k : Int) + 1) then (k : Int) + 1 else z_hl f g k) ≤ ((k + 1 : Nat) : Int)
    split <;> omega
theorem z_most_r (f g : Int → Int) {n : Int} (h : 0 ≤ n) : 0 ≤ z_most f g n ∧ z_most f g n ≤ n := by
  have h1 := z_hm_r f g n.toNat
  unfold z_most
  omega
theorem z_least_r (f g : Int → Int) {n : Int} (h : 0 ≤ n) : 0 ≤ z_least f g n ∧ z_least f g n ≤ n := by
  have h1 := z_hl_r f g n.toNat
  unfold z_least
  omega
theorem m_wi_r {μ : m_S} (hG : m_G μ) (hV : m_V μ) (a : Int) {p : Int} (h0 : 0 ≤ p) (h1 : p < μ 4 0) : 0 ≤ m_wo μ a * m_inall μ p ∧ m_wo μ a * m_inall μ p ≤ 801543976648704 := by
  have h2 := m_inall_r hG h0 h1
  exact z_mul2 (m_wo_r hG hV a) ⟨by omega, h2.2⟩
def m_whose_v (μ : m_S) : Int := if μ 4 0 = 0 then -4 else z_most (m_wo μ) (m_inall μ) (μ 4 0 - 1)
def m_whose_s (μ : m_S) : m_S := if μ 4 0 = 0 then μ else m_u μ 11 (fun _ => z_least (m_wo μ) (m_inall μ) (μ 4 0 - 1))
set_option maxRecDepth 20000 in
theorem tX12_whose (w : q_W) (μ : m_S) (hH : m_Sh μ) (hV : m_V μ) : q_D mX12_whose 6 [.ref 64] (m_w w μ) (some (q_i (m_whose_v μ))) (m_w w (m_whose_s μ)) := by
  refine q_T.of (lv := [some (.ref 64), none, none, none, none, none, none, none, none, none]) (by decide) rfl (Nat.le_of_ble_eq_true rfl) ?_
  have hb := hH.b
  refine q_aload_n dX12_whose_0 rfl ?_
  refine q_get (v := q_i (μ 4 0)) fX12_142_12 rfl rfl dX12_whose_1 ?_
  refine q_if_ne (tgt := 10) dX12_whose_4 (by decide) ⟨by omega, by omega⟩ (fun h4 => ?_) (fun h4 => ?_)
  · skip
    have hG := hH.g (by omega)
    refine q_iconst dX12_whose_10 ?_
    refine q_istore_n (lv' := [some (.ref 64), some (q_i 0), none, none, none, none, none, none, none, none]) dX12_whose_11 (by decide) rfl ?_
    refine q_iconst dX12_whose_12 ?_
    refine q_istore_n (lv' := [some (.ref 64), some (q_i 0), some (q_i 0), none, none, none, none, none, none, none]) dX12_whose_13 (by decide) rfl ?_
    refine q_aload_n dX12_whose_14 rfl ?_
    refine q_iconst dX12_whose_15 ?_
    refine q_cV [q_i 0] kX12_238_12 rfl (tX12_worthOf w μ 0 (by omega) (by omega) hG hV) dX12_whose_16 rfl (by decide) (Nat.le_of_ble_eq_true rfl) rfl ?_
    refine q_lstore_n (lv' := [some (.ref 64), some (q_i 0), some (q_i 0), some (q_l (m_wo μ 0)), none, none, none, none, none, none]) dX12_whose_19 (by decide) rfl ?_
    refine q_lload_n dX12_whose_20 rfl ?_
    refine q_lstore (lv' := [some (.ref 64), some (q_i 0), some (q_i 0), some (q_l (m_wo μ 0)), none, some (q_l (m_wo μ 0)), none, none, none, none]) dX12_whose_21 (by decide) rfl ?_
    refine q_iconst dX12_whose_23 ?_
    refine q_istore (lv' := [some (.ref 64), some (q_i 0), some (q_i 0), some (q_l (m_wo μ 0)), none, some (q_l (m_wo μ 0)), none, some (q_i 1), none, none]) dX12_whose_24 (by decide) rfl ?_
    have L26 : ∀ (m9 : Nat) (p : Int) (hp0 : 1 ≤ p) (hp1 : p ≤ μ 4 0) (hm9 : μ 4 0 - p < (m9 : Int)), q_J mX12_whose 6 (fun v' w' => v' = (some (q_i (m_whose_v μ))) ∧ w' = (m_w w (m_whose_s μ))) 0 0 26 [some (.ref 64), some (q_i (z_most (m_wo μ) (m_inall μ) (p - 1))), some (q_i (z_least (m_wo μ) (m_inall μ) (p - 1))), some (q_l (m_wo μ (z_most (m_wo μ) (m_inall μ) (p - 1)))), none, some (q_l (m_wo μ (z_least (m_wo μ) (m_inall μ) (p - 1)))), none, some (q_i p), none, none] [] (m_w w μ) := by
      intro m9
      induction m9 with
      | zero => intro p hp0 hp1 hm9; exact absurd hm9 (by omega)
      | succ m9 ih26 =>
        intro p hp0 hp1 hm9
        refine q_iload dX12_whose_26 rfl ?_
        refine q_aload_n dX12_whose_28 rfl ?_
        refine q_get (v := q_i (μ 4 0)) fX12_142_12 rfl rfl dX12_whose_29 ?_
        refine q_icmp_ge (tgt := 107) dX12_whose_32 (by decide) ⟨by omega, by omega⟩ ⟨by omega, by omega⟩ (fun h32 => ?_) (fun h32 => ?_)
        · skip
          refine q_aload_n dX12_whose_107 rfl ?_
          refine q_iload_n dX12_whose_108 rfl ?_
          refine q_puti (fs := m_o μ) pX12_52_12 rfl (Nat.le_of_ble_eq_true rfl) dX12_whose_109 ?_
          rw [m_p11]
          refine q_iload_n dX12_whose_112 rfl ?_
          exact q_iret rfl dX12_whose_113 (⟨by rw [show p = μ 4 0 by omega]; unfold m_whose_v; split <;> first | rfl | (exfalso; omega), by rw [show p = μ 4 0 by omega]; unfold m_whose_s; split <;> first | rfl | (exfalso; omega)⟩)
        · skip
          have hmr := z_most_r (m_wo μ) (m_inall μ) (n := p - 1) (by omega)
          have hlr := z_least_r (m_wo μ) (m_inall μ) (n := p - 1) (by omega)
          refine q_aload_n dX12_whose_35 rfl ?_
          refine q_iload dX12_whose_36 rfl ?_
          refine q_cV [q_i p] kX12_238_12 rfl (tX12_worthOf w μ p (by omega) (by omega) hG hV) dX12_whose_38 rfl (by decide) (Nat.le_of_ble_eq_true rfl) rfl ?_
          refine q_lstore (lv' := [some (.ref 64), some (q_i (z_most (m_wo μ) (m_inall μ) (p - 1))), some (q_i (z_least (m_wo μ) (m_inall μ) (p - 1))), some (q_l (m_wo μ (z_most (m_wo μ) (m_inall μ) (p - 1)))), none, some (q_l (m_wo μ (z_least (m_wo μ) (m_inall μ) (p - 1)))), none, some (q_i p), some (q_l (m_wo μ p)), none]) dX12_whose_41 (by decide) rfl ?_
          refine q_lload dX12_whose_43 rfl ?_
          refine q_aload_n dX12_whose_45 rfl ?_
          refine q_iload_n dX12_whose_46 rfl ?_
          refine q_cV [q_i (z_most (m_wo μ) (m_inall μ) (p - 1))] kX12_177_12 rfl (tX12_waysInAll w μ (z_most (m_wo μ) (m_inall μ) (p - 1)) (by omega) (by omega) hG) dX12_whose_47 rfl (by decide) (Nat.le_of_ble_eq_true rfl) rfl ?_
          show q_J _ _ _ _ _ _ _ [q_i (m_inall μ (z_most (m_wo μ) (m_inall μ) (p - 1))), q_l (m_wo μ p)] (m_w w μ)
          refine q_i2lr dX12_whose_50 ⟨by have := m_inall_r hG (p := (z_most (m_wo μ) (m_inall μ) (p - 1))) (by omega) (by omega); omega, by have := m_inall_r hG (p := (z_most (m_wo μ) (m_inall μ) (p - 1))) (by omega) (by omega); omega⟩ ?_
          refine q_lmul dX12_whose_51 ?_
          refine q_lload_n dX12_whose_52 rfl ?_
          refine q_aload_n dX12_whose_53 rfl ?_
          refine q_iload dX12_whose_54 rfl ?_
          refine q_cV [q_i p] kX12_177_12 rfl (tX12_waysInAll w μ p (by omega) (by omega) hG) dX12_whose_56 rfl (by decide) (Nat.le_of_ble_eq_true rfl) rfl ?_
          show q_J _ _ _ _ _ _ _ [q_i (m_inall μ p), q_l (m_wo μ (z_most (m_wo μ) (m_inall μ) (p - 1))), q_l ((m_wo μ p) * (m_inall μ (z_most (m_wo μ) (m_inall μ) (p - 1))))] (m_w w μ)
          refine q_i2lr dX12_whose_59 ⟨by have := m_inall_r hG (p := p) (by omega) (by omega); omega, by have := m_inall_r hG (p := p) (by omega) (by omega); omega⟩ ?_
          refine q_lmul dX12_whose_60 ?_
          refine q_lcmp_le (tgt := 71) dX12_whose_61 dX12_whose_62 (by decide) ⟨by have := m_wi_r hG hV p (p := (z_most (m_wo μ) (m_inall μ) (p - 1))) (by omega) (by omega); omega, by have := m_wi_r hG hV p (p := (z_most (m_wo μ) (m_inall μ) (p - 1))) (by omega) (by omega); omega⟩ ⟨by have := m_wi_r hG hV (z_most (m_wo μ) (m_inall μ) (p - 1)) (p := p) (by omega) (by omega); omega, by have := m_wi_r hG hV (z_most (m_wo μ) (m_inall μ) (p - 1)) (p := p) (by omega) (by omega); omega⟩ (fun h61 => ?_) (fun h61 => ?_)
          · skip
            refine q_lload dX12_whose_71 rfl ?_
            refine q_aload_n dX12_whose_73 rfl ?_
            refine q_iload_n dX12_whose_74 rfl ?_
            refine q_cV [q_i (z_least (m_wo μ) (m_inall μ) (p - 1))] kX12_177_12 rfl (tX12_waysInAll w μ (z_least (m_wo μ) (m_inall μ) (p - 1)) (by omega) (by omega) hG) dX12_whose_75 rfl (by decide) (Nat.le_of_ble_eq_true rfl) rfl ?_
            show q_J _ _ _ _ _ _ _ [q_i (m_inall μ (z_least (m_wo μ) (m_inall μ) (p - 1))), q_l (m_wo μ p)] (m_w w μ)
            refine q_i2lr dX12_whose_78 ⟨by have := m_inall_r hG (p := (z_least (m_wo μ) (m_inall μ) (p - 1))) (by omega) (by omega); omega, by have := m_inall_r hG (p := (z_least (m_wo μ) (m_inall μ) (p - 1))) (by omega) (by omega); omega⟩ ?_
            refine q_lmul dX12_whose_79 ?_
            refine q_lload dX12_whose_80 rfl ?_
            refine q_aload_n dX12_whose_82 rfl ?_
            refine q_iload dX12_whose_83 rfl ?_
            refine q_cV [q_i p] kX12_177_12 rfl (tX12_waysInAll w μ p (by omega) (by omega) hG) dX12_whose_85 rfl (by decide) (Nat.le_of_ble_eq_true rfl) rfl ?_
            show q_J _ _ _ _ _ _ _ [q_i (m_inall μ p), q_l (m_wo μ (z_least (m_wo μ) (m_inall μ) (p - 1))), q_l ((m_wo μ p) * (m_inall μ (z_least (m_wo μ) (m_inall μ) (p - 1))))] (m_w w μ)
            refine q_i2lr dX12_whose_88 ⟨by have := m_inall_r hG (p := p) (by omega) (by omega); omega, by have := m_inall_r hG (p := p) (by omega) (by omega); omega⟩ ?_
            refine q_lmul dX12_whose_89 ?_
            refine q_lcmp_ge (tgt := 101) dX12_whose_90 dX12_whose_91 (by decide) ⟨by have := m_wi_r hG hV p (p := (z_least (m_wo μ) (m_inall μ) (p - 1))) (by omega) (by omega); omega, by have := m_wi_r hG hV p (p := (z_least (m_wo μ) (m_inall μ) (p - 1))) (by omega) (by omega); omega⟩ ⟨by have := m_wi_r hG hV (z_least (m_wo μ) (m_inall μ) (p - 1)) (p := p) (by omega) (by omega); omega, by have := m_wi_r hG hV (z_least (m_wo μ) (m_inall μ) (p - 1)) (p := p) (by omega) (by omega); omega⟩ (fun h90 => ?_) (fun h90 => ?_)
            · skip
              refine q_iinc (lv' := [some (.ref 64), some (q_i (z_most (m_wo μ) (m_inall μ) (p - 1))), some (q_i (z_least (m_wo μ) (m_inall μ) (p - 1))), some (q_l (m_wo μ (z_most (m_wo μ) (m_inall μ) (p - 1)))), none, some (q_l (m_wo μ (z_least (m_wo μ) (m_inall μ) (p - 1)))), none, some (q_i (p + 1)), some (q_l (m_wo μ p)), none]) dX12_whose_101 rfl (by decide) rfl ?_
              refine q_goto (tgt := 26) dX12_whose_104 (by decide) ?_
              exact q_Jle (q_le_s (rfl) (q_le_s (by rw [show p + 1 - 1 = (p - 1) + 1 by omega, z_most_s _ _ (by omega), show p - 1 + 1 = p by omega]; split <;> first | rfl | (exfalso; omega)) (q_le_s (by rw [show p + 1 - 1 = (p - 1) + 1 by omega, z_least_s _ _ (by omega), show p - 1 + 1 = p by omega]; split <;> first | rfl | (exfalso; omega)) (q_le_s (by rw [show p + 1 - 1 = (p - 1) + 1 by omega, z_most_s _ _ (by omega), show p - 1 + 1 = p by omega]; split <;> first | rfl | (exfalso; omega)) (q_le_n (q_le_s (by rw [show p + 1 - 1 = (p - 1) + 1 by omega, z_least_s _ _ (by omega), show p - 1 + 1 = p by omega]; split <;> first | rfl | (exfalso; omega)) (q_le_n (q_le_s (rfl) (q_le_n (q_le_n (q_le_e _))))))))))) (rfl) (rfl) (ih26 (p + 1) (by omega) (by omega) (by omega))
            · skip
              refine q_iload dX12_whose_94 rfl ?_
              refine q_istore_n (lv' := [some (.ref 64), some (q_i (z_most (m_wo μ) (m_inall μ) (p - 1))), some (q_i p), some (q_l (m_wo μ (z_most (m_wo μ) (m_inall μ) (p - 1)))), none, some (q_l (m_wo μ (z_least (m_wo μ) (m_inall μ) (p - 1)))), none, some (q_i p), some (q_l (m_wo μ p)), none]) dX12_whose_96 (by decide) rfl ?_
              refine q_lload dX12_whose_97 rfl ?_
              refine q_lstore (lv' := [some (.ref 64), some (q_i (z_most (m_wo μ) (m_inall μ) (p - 1))), some (q_i p), some (q_l (m_wo μ (z_most (m_wo μ) (m_inall μ) (p - 1)))), none, some (q_l (m_wo μ p)), none, some (q_i p), some (q_l (m_wo μ p)), none]) dX12_whose_99 (by decide) rfl ?_
              refine q_iinc (lv' := [some (.ref 64), some (q_i (z_most (m_wo μ) (m_inall μ) (p - 1))), some (q_i p), some (q_l (m_wo μ (z_most (m_wo μ) (m_inall μ) (p - 1)))), none, some (q_l (m_wo μ p)), none, some (q_i (p + 1)), some (q_l (m_wo μ p)), none]) dX12_whose_101 rfl (by decide) rfl ?_
              refine q_goto (tgt := 26) dX12_whose_104 (by decide) ?_
              exact q_Jle (q_le_s (rfl) (q_le_s (by rw [show p + 1 - 1 = (p - 1) + 1 by omega, z_most_s _ _ (by omega), show p - 1 + 1 = p by omega]; split <;> first | rfl | (exfalso; omega)) (q_le_s (by rw [show p + 1 - 1 = (p - 1) + 1 by omega, z_least_s _ _ (by omega), show p - 1 + 1 = p by omega]; split <;> first | rfl | (exfalso; omega)) (q_le_s (by rw [show p + 1 - 1 = (p - 1) + 1 by omega, z_most_s _ _ (by omega), show p - 1 + 1 = p by omega]; split <;> first | rfl | (exfalso; omega)) (q_le_n (q_le_s (by rw [show p + 1 - 1 = (p - 1) + 1 by omega, z_least_s _ _ (by omega), show p - 1 + 1 = p by omega]; split <;> first | rfl | (exfalso; omega)) (q_le_n (q_le_s (rfl) (q_le_n (q_le_n (q_le_e _))))))))))) (rfl) (rfl) (ih26 (p + 1) (by omega) (by omega) (by omega))
          · skip
            refine q_iload dX12_whose_65 rfl ?_
            refine q_istore_n (lv' := [some (.ref 64), some (q_i p), some (q_i (z_least (m_wo μ) (m_inall μ) (p - 1))), some (q_l (m_wo μ (z_most (m_wo μ) (m_inall μ) (p - 1)))), none, some (q_l (m_wo μ (z_least (m_wo μ) (m_inall μ) (p - 1)))), none, some (q_i p), some (q_l (m_wo μ p)), none]) dX12_whose_67 (by decide) rfl ?_
            refine q_lload dX12_whose_68 rfl ?_
            refine q_lstore_n (lv' := [some (.ref 64), some (q_i p), some (q_i (z_least (m_wo μ) (m_inall μ) (p - 1))), some (q_l (m_wo μ p)), none, some (q_l (m_wo μ (z_least (m_wo μ) (m_inall μ) (p - 1)))), none, some (q_i p), some (q_l (m_wo μ p)), none]) dX12_whose_70 (by decide) rfl ?_
            refine q_lload dX12_whose_71 rfl ?_
            refine q_aload_n dX12_whose_73 rfl ?_
            refine q_iload_n dX12_whose_74 rfl ?_
            refine q_cV [q_i (z_least (m_wo μ) (m_inall μ) (p - 1))] kX12_177_12 rfl (tX12_waysInAll w μ (z_least (m_wo μ) (m_inall μ) (p - 1)) (by omega) (by omega) hG) dX12_whose_75 rfl (by decide) (Nat.le_of_ble_eq_true rfl) rfl ?_
            show q_J _ _ _ _ _ _ _ [q_i (m_inall μ (z_least (m_wo μ) (m_inall μ) (p - 1))), q_l (m_wo μ p)] (m_w w μ)
            refine q_i2lr dX12_whose_78 ⟨by have := m_inall_r hG (p := (z_least (m_wo μ) (m_inall μ) (p - 1))) (by omega) (by omega); omega, by have := m_inall_r hG (p := (z_least (m_wo μ) (m_inall μ) (p - 1))) (by omega) (by omega); omega⟩ ?_
            refine q_lmul dX12_whose_79 ?_
            refine q_lload dX12_whose_80 rfl ?_
            refine q_aload_n dX12_whose_82 rfl ?_
            refine q_iload dX12_whose_83 rfl ?_
            refine q_cV [q_i p] kX12_177_12 rfl (tX12_waysInAll w μ p (by omega) (by omega) hG) dX12_whose_85 rfl (by decide) (Nat.le_of_ble_eq_true rfl) rfl ?_
            show q_J _ _ _ _ _ _ _ [q_i (m_inall μ p), q_l (m_wo μ (z_least (m_wo μ) (m_inall μ) (p - 1))), q_l ((m_wo μ p) * (m_inall μ (z_least (m_wo μ) (m_inall μ) (p - 1))))] (m_w w μ)
            refine q_i2lr dX12_whose_88 ⟨by have := m_inall_r hG (p := p) (by omega) (by omega); omega, by have := m_inall_r hG (p := p) (by omega) (by omega); omega⟩ ?_
            refine q_lmul dX12_whose_89 ?_
            refine q_lcmp_ge (tgt := 101) dX12_whose_90 dX12_whose_91 (by decide) ⟨by have := m_wi_r hG hV p (p := (z_least (m_wo μ) (m_inall μ) (p - 1))) (by omega) (by omega); omega, by have := m_wi_r hG hV p (p := (z_least (m_wo μ) (m_inall μ) (p - 1))) (by omega) (by omega); omega⟩ ⟨by have := m_wi_r hG hV (z_least (m_wo μ) (m_inall μ) (p - 1)) (p := p) (by omega) (by omega); omega, by have := m_wi_r hG hV (z_least (m_wo μ) (m_inall μ) (p - 1)) (p := p) (by omega) (by omega); omega⟩ (fun h90 => ?_) (fun h90 => ?_)
            · skip
              refine q_iinc (lv' := [some (.ref 64), some (q_i p), some (q_i (z_least (m_wo μ) (m_inall μ) (p - 1))), some (q_l (m_wo μ p)), none, some (q_l (m_wo μ (z_least (m_wo μ) (m_inall μ) (p - 1)))), none, some (q_i (p + 1)), some (q_l (m_wo μ p)), none]) dX12_whose_101 rfl (by decide) rfl ?_
              refine q_goto (tgt := 26) dX12_whose_104 (by decide) ?_
              exact q_Jle (q_le_s (rfl) (q_le_s (by rw [show p + 1 - 1 = (p - 1) + 1 by omega, z_most_s _ _ (by omega), show p - 1 + 1 = p by omega]; split <;> first | rfl | (exfalso; omega)) (q_le_s (by rw [show p + 1 - 1 = (p - 1) + 1 by omega, z_least_s _ _ (by omega), show p - 1 + 1 = p by omega]; split <;> first | rfl | (exfalso; omega)) (q_le_s (by rw [show p + 1 - 1 = (p - 1) + 1 by omega, z_most_s _ _ (by omega), show p - 1 + 1 = p by omega]; split <;> first | rfl | (exfalso; omega)) (q_le_n (q_le_s (by rw [show p + 1 - 1 = (p - 1) + 1 by omega, z_least_s _ _ (by omega), show p - 1 + 1 = p by omega]; split <;> first | rfl | (exfalso; omega)) (q_le_n (q_le_s (rfl) (q_le_n (q_le_n (q_le_e _))))))))))) (rfl) (rfl) (ih26 (p + 1) (by omega) (by omega) (by omega))
            · skip
              refine q_iload dX12_whose_94 rfl ?_
              refine q_istore_n (lv' := [some (.ref 64), some (q_i p), some (q_i p), some (q_l (m_wo μ p)), none, some (q_l (m_wo μ (z_least (m_wo μ) (m_inall μ) (p - 1)))), none, some (q_i p), some (q_l (m_wo μ p)), none]) dX12_whose_96 (by decide) rfl ?_
              refine q_lload dX12_whose_97 rfl ?_
              refine q_lstore (lv' := [some (.ref 64), some (q_i p), some (q_i p), some (q_l (m_wo μ p)), none, some (q_l (m_wo μ p)), none, some (q_i p), some (q_l (m_wo μ p)), none]) dX12_whose_99 (by decide) rfl ?_
              refine q_iinc (lv' := [some (.ref 64), some (q_i p), some (q_i p), some (q_l (m_wo μ p)), none, some (q_l (m_wo μ p)), none, some (q_i (p + 1)), some (q_l (m_wo μ p)), none]) dX12_whose_101 rfl (by decide) rfl ?_
              refine q_goto (tgt := 26) dX12_whose_104 (by decide) ?_
              exact q_Jle (q_le_s (rfl) (q_le_s (by rw [show p + 1 - 1 = (p - 1) + 1 by omega, z_most_s _ _ (by omega), show p - 1 + 1 = p by omega]; split <;> first | rfl | (exfalso; omega)) (q_le_s (by rw [show p + 1 - 1 = (p - 1) + 1 by omega, z_least_s _ _ (by omega), show p - 1 + 1 = p by omega]; split <;> first | rfl | (exfalso; omega)) (q_le_s (by rw [show p + 1 - 1 = (p - 1) + 1 by omega, z_most_s _ _ (by omega), show p - 1 + 1 = p by omega]; split <;> first | rfl | (exfalso; omega)) (q_le_n (q_le_s (by rw [show p + 1 - 1 = (p - 1) + 1 by omega, z_least_s _ _ (by omega), show p - 1 + 1 = p by omega]; split <;> first | rfl | (exfalso; omega)) (q_le_n (q_le_s (rfl) (q_le_n (q_le_n (q_le_e _))))))))))) (rfl) (rfl) (ih26 (p + 1) (by omega) (by omega) (by omega))
    exact q_Jle (q_le_s (rfl) (q_le_s (rfl) (q_le_s (rfl) (q_le_s (rfl) (q_le_n (q_le_s (rfl) (q_le_n (q_le_s (rfl) (q_le_n (q_le_n (q_le_e _))))))))))) (rfl) (rfl) (L26 ((μ 4 0 - 1 : Int).toNat + 1) 1 (by omega) (by omega) (by omega))
  · skip
    refine q_bipush dX12_whose_7 ?_
    exact q_iret rfl dX12_whose_9 (⟨by (unfold m_whose_v; (repeat' split) <;> first | rfl | (exfalso; omega)), by (unfold m_whose_s; (repeat' split) <;> first | rfl | (exfalso; omega))⟩)
/-- the first place at which f is greatest and above 0, else a -/
def z_g0 (f : Int → Int) (a : Int) : Nat → Int
  | 0 => a
  | k + 1 => if z_m f k < f k then k else z_g0 f a k
def z_ag (f : Int → Int) (a n : Int) : Int := z_g0 f a n.toNat
theorem z_ag_s (f : Int → Int) (a : Int) {n : Int} (h : 0 ≤ n) : z_ag f a (n + 1) = if z_max f n < f n then n else z_ag f a n := by
  unfold z_ag z_max
  rw [show (n + 1).toNat = n.toNat + 1 by omega]
  show (if z_m f n.toNat < f (n.toNat : Int) then (n.toNat : Int) else z_g0 f a n.toNat) = _
  rw [show (n.toNat : Int) = n by omega]
/-- a field of a number is that number at every place, as far as the object shows it -/
theorem m_w_c (w : q_W) {μ ν : m_S} (h : ∀ k, μ k = ν k ∨ (k = 11 ∧ μ 11 0 = ν 11 0)) : m_w w μ = m_w w ν := by
  have e : ∀ k, k ≠ 11 → μ k = ν k := fun k hk => (h k).resolve_right (fun q => hk q.1)
  have e11 : μ 11 0 = ν 11 0 := by
    rcases h 11 with q | q
    · rw [q]
    · exact q.2
  unfold m_w m_o
  rw [e 0 (by decide), e 1 (by decide), e 2 (by decide), e 3 (by decide), e 4 (by decide), e 5 (by decide), e 6 (by decide), e 7 (by decide), e 8 (by decide), e 9 (by decide), e 10 (by decide), e11, e 12 (by decide), e 13 (by decide), e 14 (by decide), e 15 (by decide), e 16 (by decide), e 17 (by decide), e 18 (by decide), e 19 (by decide), e 20 (by decide), e 21 (by decide), e 22 (by decide), e 23 (by decide), e 24 (by decide)]
theorem m_w11 (w : q_W) (μ : m_S) : m_w w μ = m_w w (m_u μ 11 (fun _ => μ 11 0)) := m_w_c w (fun k => by
  by_cases h : k = 11
  · exact Or.inr ⟨h, rfl⟩
  · exact Or.inl (m_un h).symm)
def m_sights_v (μ : m_S) (p : Int) : Int := if ¬ (0 ≤ p ∧ p ≤ μ 4 0 - 1) then -1 else z_sum (fun s => if 0 < m_sb μ p s then 1 else 0) (μ 3 0)
def m_sights_s (μ : m_S) (p : Int) : m_S := if ¬ (0 ≤ p ∧ p ≤ μ 4 0 - 1) then μ else m_u μ 11 (fun _ => z_ag (m_sb μ p) (μ 11 0) (μ 3 0))
set_option maxRecDepth 20000 in
theorem tX12_sights (w : q_W) (μ : m_S) (p : Int) (hp : q_r p) (hH : m_Sh μ) (hV : m_V μ) : q_D mX12_sights 6 [.ref 64, q_i p] (m_w w μ) (some (q_i (m_sights_v μ p))) (m_w w (m_sights_s μ p)) := by
  refine q_T.of (lv := [some (.ref 64), some (q_i p), none, none, none, none, none, none]) (by decide) rfl (Nat.le_of_ble_eq_true rfl) ?_
  have hb := hH.b
  refine q_aload_n dX12_sights_0 rfl ?_
  refine q_iload_n dX12_sights_1 rfl ?_
  refine q_cV [q_i p] kX12_183_12 rfl (tX12_isPerson w μ p (hp) (by omega) (by omega)) dX12_sights_2 rfl (by decide) (Nat.le_of_ble_eq_true rfl) rfl ?_
  refine q_ifb_ne (tgt := 10) dX12_sights_5 (by decide) (fun h5 => ?_) (fun h5 => ?_)
  · skip
    have hG := hH.g (by omega)
    refine q_iconst dX12_sights_10 ?_
    refine q_istore_n (lv' := [some (.ref 64), some (q_i p), some (q_i 0), none, none, none, none, none]) dX12_sights_11 (by decide) rfl ?_
    refine q_lconst 0 dX12_sights_12 ?_
    refine q_lstore_n (lv' := [some (.ref 64), some (q_i p), some (q_i 0), some (q_l 0), none, none, none, none]) dX12_sights_13 (by decide) rfl ?_
    refine q_iconst dX12_sights_14 ?_
    refine q_istore (lv' := [some (.ref 64), some (q_i p), some (q_i 0), some (q_l 0), none, some (q_i 0), none, none]) dX12_sights_15 (by decide) rfl ?_
    have L17 : ∀ (m9 : Nat) (k : Int) (hk0 : 0 ≤ k) (hk1 : k ≤ μ 3 0) (hm9 : μ 3 0 - k < (m9 : Int)), q_J mX12_sights 6 (fun v' w' => v' = (some (q_i (m_sights_v μ p))) ∧ w' = (m_w w (m_sights_s μ p))) 0 0 17 [some (.ref 64), some (q_i p), some (q_i (z_sum (fun s => if 0 < m_sb μ p s then 1 else 0) k)), some (q_l (z_max (m_sb μ p) k)), none, some (q_i k), none, none] [] (m_w w (m_u μ 11 (fun _ => z_ag (m_sb μ p) (μ 11 0) k))) := by
      intro m9
      induction m9 with
      | zero => intro k hk0 hk1 hm9; exact absurd hm9 (by omega)
      | succ m9 ih17 =>
        intro k hk0 hk1 hm9
        refine q_iload dX12_sights_17 rfl ?_
        refine q_aload_n dX12_sights_19 rfl ?_
        refine q_get (v := q_i (μ 3 0)) fX12_139_12 rfl rfl dX12_sights_20 ?_
        refine q_icmp_ge (tgt := 90) dX12_sights_23 (by decide) ⟨by omega, by omega⟩ ⟨by omega, by omega⟩ (fun h23 => ?_) (fun h23 => ?_)
        · skip
          refine q_iload_n dX12_sights_90 rfl ?_
          exact q_iret rfl dX12_sights_91 (⟨by rw [show k = μ 3 0 by omega]; unfold m_sights_v; split <;> first | rfl | (exfalso; omega), by rw [show k = μ 3 0 by omega]; unfold m_sights_s; split <;> first | rfl | (exfalso; omega)⟩)
        · skip
          have hsb := m_sb_r hG hV p k
          have hmb := z_max_b (m_sb μ p) (b := 3710851743744) (n := k) (by decide) (fun j _ _ => (m_sb_r hG hV p j).2)
          refine q_aload_n dX12_sights_26 rfl ?_
          refine q_iload_n dX12_sights_27 rfl ?_
          refine q_iload dX12_sights_28 rfl ?_
          refine q_cV [q_i p, q_i k] kX12_242_12 rfl (tX12_seenBy w (m_u μ 11 (fun _ => z_ag (m_sb μ p) (μ 11 0) k)) p k (by omega) (show p < μ 4 0 by omega) hk0 (show k < μ 3 0 by omega) hG hV) dX12_sights_30 rfl (by decide) (Nat.le_of_ble_eq_true rfl) rfl ?_
          show q_J _ _ _ _ _ _ _ [q_l (m_sb μ p k)] (m_w w (m_u μ 11 (fun _ => z_ag (m_sb μ p) (μ 11 0) k)))
          refine q_lstore (lv' := [some (.ref 64), some (q_i p), some (q_i (z_sum (fun s => if 0 < m_sb μ p s then 1 else 0) k)), some (q_l (z_max (m_sb μ p) k)), none, some (q_i k), some (q_l (m_sb μ p k)), none]) dX12_sights_33 (by decide) rfl ?_
          refine q_iload_n dX12_sights_35 rfl ?_
          refine q_lload dX12_sights_36 rfl ?_
          refine q_lconst 0 dX12_sights_38 ?_
          refine q_lcmp_le (tgt := 47) dX12_sights_39 dX12_sights_40 (by decide) ⟨by have := m_sb_r hG hV p k; omega, by have := m_sb_r hG hV p k; omega⟩ ⟨by decide, by decide⟩ (fun h39 => ?_) (fun h39 => ?_)
          · skip
            refine q_iconst dX12_sights_47 ?_
            refine q_iadd dX12_sights_48 ?_
            refine q_istore_n (lv' := [some (.ref 64), some (q_i p), some (q_i ((z_sum (fun s => if 0 < m_sb μ p s then 1 else 0) k) + 0)), some (q_l (z_max (m_sb μ p) k)), none, some (q_i k), some (q_l (m_sb μ p k)), none]) dX12_sights_49 (by decide) rfl ?_
            refine q_aload_n dX12_sights_50 rfl ?_
            refine q_lload dX12_sights_51 rfl ?_
            refine q_lload_n dX12_sights_53 rfl ?_
            refine q_lcmp_le (tgt := 63) dX12_sights_54 dX12_sights_55 (by decide) ⟨by have := m_sb_r hG hV p k; omega, by have := m_sb_r hG hV p k; omega⟩ ⟨by have := z_max_b (m_sb μ p) (b := 3710851743744) (n := k) (by decide) (fun j _ _ => (m_sb_r hG hV p j).2); omega, by have := z_max_b (m_sb μ p) (b := 3710851743744) (n := k) (by decide) (fun j _ _ => (m_sb_r hG hV p j).2); omega⟩ (fun h54 => ?_) (fun h54 => ?_)
            · skip
              refine q_aload_n dX12_sights_63 rfl ?_
              refine q_get (v := q_i (z_ag (m_sb μ p) (μ 11 0) k)) fX12_52_12 rfl rfl dX12_sights_64 ?_
              refine q_puti (fs := m_o (m_u μ 11 (fun _ => z_ag (m_sb μ p) (μ 11 0) k))) pX12_52_12 rfl (Nat.le_of_ble_eq_true rfl) dX12_sights_67 ?_
              rw [m_p11]
              refine q_lload dX12_sights_70 rfl ?_
              refine q_lload_n dX12_sights_72 rfl ?_
              refine q_lcmp_le (tgt := 82) dX12_sights_73 dX12_sights_74 (by decide) ⟨by have := m_sb_r hG hV p k; omega, by have := m_sb_r hG hV p k; omega⟩ ⟨by have := z_max_b (m_sb μ p) (b := 3710851743744) (n := k) (by decide) (fun j _ _ => (m_sb_r hG hV p j).2); omega, by have := z_max_b (m_sb μ p) (b := 3710851743744) (n := k) (by decide) (fun j _ _ => (m_sb_r hG hV p j).2); omega⟩ (fun h73 => ?_) (fun h73 => False.elim (by omega))
              refine q_lload_n dX12_sights_82 rfl ?_
              refine q_lstore_n (lv' := [some (.ref 64), some (q_i p), some (q_i ((z_sum (fun s => if 0 < m_sb μ p s then 1 else 0) k) + 0)), some (q_l (z_max (m_sb μ p) k)), none, some (q_i k), some (q_l (m_sb μ p k)), none]) dX12_sights_83 (by decide) rfl ?_
              refine q_iinc (lv' := [some (.ref 64), some (q_i p), some (q_i ((z_sum (fun s => if 0 < m_sb μ p s then 1 else 0) k) + 0)), some (q_l (z_max (m_sb μ p) k)), none, some (q_i (k + 1)), some (q_l (m_sb μ p k)), none]) dX12_sights_84 rfl (by decide) rfl ?_
              refine q_goto (tgt := 17) dX12_sights_87 (by decide) ?_
              exact q_Jle (q_le_s (rfl) (q_le_s (rfl) (q_le_s (by rw [z_sum_s _ hk0]; (try dsimp only); (repeat' split) <;> first | rfl | (exfalso; omega)) (q_le_s (by rw [z_max_s _ hk0]; split <;> first | rfl | (exfalso; omega)) (q_le_n (q_le_s (rfl) (q_le_n (q_le_n (q_le_e _))))))))) (rfl) (by rw [m_uu, z_ag_s _ _ hk0]; split <;> first | rfl | (exfalso; omega)) (ih17 (k + 1) (by omega) (by omega) (by omega))
            · skip
              refine q_iload dX12_sights_58 rfl ?_
              refine q_goto (tgt := 67) dX12_sights_60 (by decide) ?_
              refine q_puti (fs := m_o (m_u μ 11 (fun _ => z_ag (m_sb μ p) (μ 11 0) k))) pX12_52_12 rfl (Nat.le_of_ble_eq_true rfl) dX12_sights_67 ?_
              rw [m_p11]
              refine q_lload dX12_sights_70 rfl ?_
              refine q_lload_n dX12_sights_72 rfl ?_
              refine q_lcmp_le (tgt := 82) dX12_sights_73 dX12_sights_74 (by decide) ⟨by have := m_sb_r hG hV p k; omega, by have := m_sb_r hG hV p k; omega⟩ ⟨by have := z_max_b (m_sb μ p) (b := 3710851743744) (n := k) (by decide) (fun j _ _ => (m_sb_r hG hV p j).2); omega, by have := z_max_b (m_sb μ p) (b := 3710851743744) (n := k) (by decide) (fun j _ _ => (m_sb_r hG hV p j).2); omega⟩ (fun h73 => False.elim (by omega)) (fun h73 => ?_)
              refine q_lload dX12_sights_77 rfl ?_
              refine q_goto (tgt := 83) dX12_sights_79 (by decide) ?_
              refine q_lstore_n (lv' := [some (.ref 64), some (q_i p), some (q_i ((z_sum (fun s => if 0 < m_sb μ p s then 1 else 0) k) + 0)), some (q_l (m_sb μ p k)), none, some (q_i k), some (q_l (m_sb μ p k)), none]) dX12_sights_83 (by decide) rfl ?_
              refine q_iinc (lv' := [some (.ref 64), some (q_i p), some (q_i ((z_sum (fun s => if 0 < m_sb μ p s then 1 else 0) k) + 0)), some (q_l (m_sb μ p k)), none, some (q_i (k + 1)), some (q_l (m_sb μ p k)), none]) dX12_sights_84 rfl (by decide) rfl ?_
              refine q_goto (tgt := 17) dX12_sights_87 (by decide) ?_
              exact q_Jle (q_le_s (rfl) (q_le_s (rfl) (q_le_s (by rw [z_sum_s _ hk0]; (try dsimp only); (repeat' split) <;> first | rfl | (exfalso; omega)) (q_le_s (by rw [z_max_s _ hk0]; split <;> first | rfl | (exfalso; omega)) (q_le_n (q_le_s (rfl) (q_le_n (q_le_n (q_le_e _))))))))) (rfl) (by rw [m_uu, z_ag_s _ _ hk0]; split <;> first | rfl | (exfalso; omega)) (ih17 (k + 1) (by omega) (by omega) (by omega))
          · skip
            refine q_iconst dX12_sights_43 ?_
            refine q_goto (tgt := 48) dX12_sights_44 (by decide) ?_
            refine q_iadd dX12_sights_48 ?_
            refine q_istore_n (lv' := [some (.ref 64), some (q_i p), some (q_i ((z_sum (fun s => if 0 < m_sb μ p s then 1 else 0) k) + 1)), some (q_l (z_max (m_sb μ p) k)), none, some (q_i k), some (q_l (m_sb μ p k)), none]) dX12_sights_49 (by decide) rfl ?_
            refine q_aload_n dX12_sights_50 rfl ?_
            refine q_lload dX12_sights_51 rfl ?_
            refine q_lload_n dX12_sights_53 rfl ?_
            refine q_lcmp_le (tgt := 63) dX12_sights_54 dX12_sights_55 (by decide) ⟨by have := m_sb_r hG hV p k; omega, by have := m_sb_r hG hV p k; omega⟩ ⟨by have := z_max_b (m_sb μ p) (b := 3710851743744) (n := k) (by decide) (fun j _ _ => (m_sb_r hG hV p j).2); omega, by have := z_max_b (m_sb μ p) (b := 3710851743744) (n := k) (by decide) (fun j _ _ => (m_sb_r hG hV p j).2); omega⟩ (fun h54 => ?_) (fun h54 => ?_)
            · skip
              refine q_aload_n dX12_sights_63 rfl ?_
              refine q_get (v := q_i (z_ag (m_sb μ p) (μ 11 0) k)) fX12_52_12 rfl rfl dX12_sights_64 ?_
              refine q_puti (fs := m_o (m_u μ 11 (fun _ => z_ag (m_sb μ p) (μ 11 0) k))) pX12_52_12 rfl (Nat.le_of_ble_eq_true rfl) dX12_sights_67 ?_
              rw [m_p11]
              refine q_lload dX12_sights_70 rfl ?_
              refine q_lload_n dX12_sights_72 rfl ?_
              refine q_lcmp_le (tgt := 82) dX12_sights_73 dX12_sights_74 (by decide) ⟨by have := m_sb_r hG hV p k; omega, by have := m_sb_r hG hV p k; omega⟩ ⟨by have := z_max_b (m_sb μ p) (b := 3710851743744) (n := k) (by decide) (fun j _ _ => (m_sb_r hG hV p j).2); omega, by have := z_max_b (m_sb μ p) (b := 3710851743744) (n := k) (by decide) (fun j _ _ => (m_sb_r hG hV p j).2); omega⟩ (fun h73 => ?_) (fun h73 => False.elim (by omega))
              refine q_lload_n dX12_sights_82 rfl ?_
              refine q_lstore_n (lv' := [some (.ref 64), some (q_i p), some (q_i ((z_sum (fun s => if 0 < m_sb μ p s then 1 else 0) k) + 1)), some (q_l (z_max (m_sb μ p) k)), none, some (q_i k), some (q_l (m_sb μ p k)), none]) dX12_sights_83 (by decide) rfl ?_
              refine q_iinc (lv' := [some (.ref 64), some (q_i p), some (q_i ((z_sum (fun s => if 0 < m_sb μ p s then 1 else 0) k) + 1)), some (q_l (z_max (m_sb μ p) k)), none, some (q_i (k + 1)), some (q_l (m_sb μ p k)), none]) dX12_sights_84 rfl (by decide) rfl ?_
              refine q_goto (tgt := 17) dX12_sights_87 (by decide) ?_
              exact q_Jle (q_le_s (rfl) (q_le_s (rfl) (q_le_s (by rw [z_sum_s _ hk0]; (try dsimp only); (repeat' split) <;> first | rfl | (exfalso; omega)) (q_le_s (by rw [z_max_s _ hk0]; split <;> first | rfl | (exfalso; omega)) (q_le_n (q_le_s (rfl) (q_le_n (q_le_n (q_le_e _))))))))) (rfl) (by rw [m_uu, z_ag_s _ _ hk0]; split <;> first | rfl | (exfalso; omega)) (ih17 (k + 1) (by omega) (by omega) (by omega))
            · skip
              refine q_iload dX12_sights_58 rfl ?_
              refine q_goto (tgt := 67) dX12_sights_60 (by decide) ?_
              refine q_puti (fs := m_o (m_u μ 11 (fun _ => z_ag (m_sb μ p) (μ 11 0) k))) pX12_52_12 rfl (Nat.le_of_ble_eq_true rfl) dX12_sights_67 ?_
              rw [m_p11]
              refine q_lload dX12_sights_70 rfl ?_
              refine q_lload_n dX12_sights_72 rfl ?_
              refine q_lcmp_le (tgt := 82) dX12_sights_73 dX12_sights_74 (by decide) ⟨by have := m_sb_r hG hV p k; omega, by have := m_sb_r hG hV p k; omega⟩ ⟨by have := z_max_b (m_sb μ p) (b := 3710851743744) (n := k) (by decide) (fun j _ _ => (m_sb_r hG hV p j).2); omega, by have := z_max_b (m_sb μ p) (b := 3710851743744) (n := k) (by decide) (fun j _ _ => (m_sb_r hG hV p j).2); omega⟩ (fun h73 => False.elim (by omega)) (fun h73 => ?_)
              refine q_lload dX12_sights_77 rfl ?_
              refine q_goto (tgt := 83) dX12_sights_79 (by decide) ?_
              refine q_lstore_n (lv' := [some (.ref 64), some (q_i p), some (q_i ((z_sum (fun s => if 0 < m_sb μ p s then 1 else 0) k) + 1)), some (q_l (m_sb μ p k)), none, some (q_i k), some (q_l (m_sb μ p k)), none]) dX12_sights_83 (by decide) rfl ?_
              refine q_iinc (lv' := [some (.ref 64), some (q_i p), some (q_i ((z_sum (fun s => if 0 < m_sb μ p s then 1 else 0) k) + 1)), some (q_l (m_sb μ p k)), none, some (q_i (k + 1)), some (q_l (m_sb μ p k)), none]) dX12_sights_84 rfl (by decide) rfl ?_
              refine q_goto (tgt := 17) dX12_sights_87 (by decide) ?_
              exact q_Jle (q_le_s (rfl) (q_le_s (rfl) (q_le_s (by rw [z_sum_s _ hk0]; (try dsimp only); (repeat' split) <;> first | rfl | (exfalso; omega)) (q_le_s (by rw [z_max_s _ hk0]; split <;> first | rfl | (exfalso; omega)) (q_le_n (q_le_s (rfl) (q_le_n (q_le_n (q_le_e _))))))))) (rfl) (by rw [m_uu, z_ag_s _ _ hk0]; split <;> first | rfl | (exfalso; omega)) (ih17 (k + 1) (by omega) (by omega) (by omega))
    exact q_Jle (q_le_s (rfl) (q_le_s (rfl) (q_le_s (rfl) (q_le_s (rfl) (q_le_n (q_le_s (rfl) (q_le_n (q_le_n (q_le_e _))))))))) (rfl) (m_w11 w μ) (L17 ((μ 3 0 : Int).toNat + 1) 0 (by omega) (by omega) (by omega))
  · skip
    refine q_iconst dX12_sights_8 ?_
    exact q_iret rfl dX12_sights_9 (⟨by (unfold m_sights_v; (repeat' split) <;> first | rfl | (exfalso; omega)), by (unfold m_sights_s; (repeat' split) <;> first | rfl | (exfalso; omega))⟩)
