/-! the reference: how likely -/
def z_g (a b : Int) : Int := (Nat.gcd a.toNat b.toNat : Int)
theorem z_g_0 {a : Int} (h : 0 ≤ a) : z_g a 0 = a := by
  unfold z_g
  rw [show (0 : Int).toNat = 0 from rfl, Nat.gcd_zero_right]
  omega
theorem z_g_s {a b : Int} (ha : 0 ≤ a) (hb : 0 ≤ b) : z_g b (a.tmod b) = z_g a b := by
  unfold z_g
  have e : (a.tmod b).toNat = a.toNat % b.toNat := by
    rw [Int.tmod_eq_emod_of_nonneg ha]
    exact Int.toNat_emod ha hb
  rw [e, Nat.gcd_comm b.toNat, ← Nat.gcd_rec, Nat.gcd_comm]
theorem z_g_pos (a : Int) {b : Int} (hb : 0 < b) : 0 < z_g a b := by
  unfold z_g
  have h : 0 < Nat.gcd a.toNat b.toNat := Nat.gcd_pos_of_pos_right _ (by omega)
  omega
theorem z_g_le (a : Int) {b : Int} (hb : 0 < b) : z_g a b ≤ b := by
  unfold z_g
  have h : Nat.gcd a.toNat b.toNat ≤ b.toNat := Nat.gcd_le_right _ (by omega)
  omega
def m_tp (μ : m_S) (a b : Int) : m_S := m_u (m_u μ 12 (fun _ => a.tdiv (z_g a b))) 13 (fun _ => b.tdiv (z_g a b))
set_option maxRecDepth 20000 in
theorem tX12_tellParts (w : q_W) (μ : m_S) (a b : Int) (ha0 : 0 ≤ a) (ha1 : a ≤ 9223372036854775807) (hb0 : 0 < b) (hb1 : b ≤ 9223372036854775807) : q_D mX12_tellParts 0 [.ref 64, q_l a, q_l b] (m_w w μ) (some (q_i 1)) (m_w w (m_tp μ a b)) := by
  refine q_T.of (lv := [some (.ref 64), some (q_l a), none, some (q_l b), none, none, none, none, none, none, none]) (by decide) rfl (Nat.le_of_ble_eq_true rfl) ?_
  refine q_lload_n dX12_tellParts_0 rfl ?_
  refine q_lstore (lv' := [some (.ref 64), some (q_l a), none, some (q_l b), none, some (q_l a), none, none, none, none, none]) dX12_tellParts_1 (by decide) rfl ?_
  refine q_lload_n dX12_tellParts_3 rfl ?_
  refine q_lstore (lv' := [some (.ref 64), some (q_l a), none, some (q_l b), none, some (q_l a), none, some (q_l b), none, none, none]) dX12_tellParts_4 (by decide) rfl ?_
  have L6 : ∀ (m9 : Nat) (x : Int) (y : Int) (hx0 : 0 ≤ x) (hx1 : x ≤ 9223372036854775807) (hy0 : 0 ≤ y) (hy1 : y ≤ 9223372036854775807) (hg : z_g x y = z_g a b) (hm9 : y < (m9 : Int)), q_J mX12_tellParts 0 (fun v' w' => v' = (some (q_i 1)) ∧ w' = (m_w w (m_tp μ a b))) 0 0 6 [some (.ref 64), some (q_l a), none, some (q_l b), none, some (q_l x), none, some (q_l y), none, none, none] [] (m_w w μ) := by
    intro m9
    induction m9 with
    | zero => intro x y hx0 hx1 hy0 hy1 hg hm9; exact absurd hm9 (by omega)
    | succ m9 ih6 =>
      intro x y hx0 hx1 hy0 hy1 hg hm9
      refine q_lload dX12_tellParts_6 rfl ?_
      refine q_lconst 0 dX12_tellParts_8 ?_
      refine q_lcmp_eq (tgt := 31) dX12_tellParts_9 dX12_tellParts_10 (by decide) ⟨by omega, by omega⟩ ⟨by decide, by decide⟩ (fun h9 => ?_) (fun h9 => ?_)
      · skip
        subst h9
        rw [z_g_0 hx0] at hg
        have hgp := z_g_pos a hb0
        refine q_aload_n dX12_tellParts_31 rfl ?_
        refine q_lload_n dX12_tellParts_32 rfl ?_
        refine q_lload dX12_tellParts_33 rfl ?_
        refine q_ldiv dX12_tellParts_35 ⟨by omega, by omega⟩ ⟨by omega, by omega⟩ (by omega) (by omega) ?_
        refine q_putl (fs := m_o μ) pX12_216_12 rfl (Nat.le_of_ble_eq_true rfl) dX12_tellParts_36 ?_
        rw [m_p12]
        refine q_aload_n dX12_tellParts_39 rfl ?_
        refine q_lload_n dX12_tellParts_40 rfl ?_
        refine q_lload dX12_tellParts_41 rfl ?_
        refine q_ldiv dX12_tellParts_43 ⟨by omega, by omega⟩ ⟨by omega, by omega⟩ (by omega) (by omega) ?_
        refine q_putl (fs := m_o (m_u μ 12 (fun _ => ((a).tdiv x)))) pX12_32_12 rfl (Nat.le_of_ble_eq_true rfl) dX12_tellParts_44 ?_
        rw [m_p13]
        refine q_iconst dX12_tellParts_47 ?_
        exact q_iret rfl dX12_tellParts_48 (⟨rfl, by rw [hg]; rfl⟩)
      · skip
        refine q_lload dX12_tellParts_13 rfl ?_
        refine q_lload dX12_tellParts_15 rfl ?_
        refine q_lrem dX12_tellParts_17 ⟨by omega, by omega⟩ ⟨by omega, by omega⟩ (by omega) (by omega) ?_
        refine q_lstore (lv' := [some (.ref 64), some (q_l a), none, some (q_l b), none, some (q_l x), none, some (q_l y), none, some (q_l ((x).tmod y)), none]) dX12_tellParts_18 (by decide) rfl ?_
        refine q_lload dX12_tellParts_20 rfl ?_
        refine q_lstore (lv' := [some (.ref 64), some (q_l a), none, some (q_l b), none, some (q_l y), none, some (q_l y), none, some (q_l ((x).tmod y)), none]) dX12_tellParts_22 (by decide) rfl ?_
        refine q_lload dX12_tellParts_24 rfl ?_
        refine q_lstore (lv' := [some (.ref 64), some (q_l a), none, some (q_l b), none, some (q_l y), none, some (q_l ((x).tmod y)), none, some (q_l ((x).tmod y)), none]) dX12_tellParts_26 (by decide) rfl ?_
        refine q_goto (tgt := 6) dX12_tellParts_28 (by decide) ?_
        exact q_Jle (q_le_s (rfl) (q_le_s (rfl) (q_le_n (q_le_s (rfl) (q_le_n (q_le_s (rfl) (q_le_n (q_le_s (rfl) (q_le_n (q_le_n (q_le_n (q_le_e _)))))))))))) (rfl) (rfl) (ih6 y (x.tmod y) (by omega) (by omega) (Int.tmod_nonneg _ hx0) (by have := Int.tmod_lt_of_pos x (b := y) (by omega); omega) ((z_g_s hx0 hy0).trans hg) (by have := Int.tmod_lt_of_pos x (b := y) (by omega); omega))
  exact q_Jle (q_le_s (rfl) (q_le_s (rfl) (q_le_n (q_le_s (rfl) (q_le_n (q_le_s (rfl) (q_le_n (q_le_s (rfl) (q_le_n (q_le_n (q_le_n (q_le_e _)))))))))))) (rfl) (rfl) (L6 ((b : Int).toNat + 1) a b (by omega) (by omega) (by omega) (by omega) (rfl) (by omega))
/-- of all weights: some code can be -/
def m_Po (μ : m_S) : Prop := m_V μ ∧ (0 < μ 3 0 → 0 < z_sum (μ 6) (μ 3 0))
theorem m_sum6 {μ : m_S} (h : m_V μ) : 0 ≤ z_sum (μ 6) (μ 3 0) ∧ z_sum (μ 6) (μ 3 0) ≤ 927712935936 := by
  have h1 := z_sum_b (μ 6) 0 4294967296 h.1.1 (fun j h0 h1 => h.2 j h0 h1)
  have h2 := h.1
  omega
def m_likely_v (μ : m_S) (c : Int) : Int := if 0 ≤ c ∧ c ≤ μ 3 0 - 1 then 1 else -1
def m_likely_s (μ : m_S) (c : Int) : m_S := if 0 ≤ c ∧ c ≤ μ 3 0 - 1 then m_tp μ (μ 6 c) (z_sum (μ 6) (μ 3 0)) else μ
set_option maxRecDepth 20000 in
theorem tX12_likely (w : q_W) (μ : m_S) (c : Int) (hc : q_r c) (hPo : m_Po μ) : q_D mX12_likely 2 [.ref 64, q_i c] (m_w w μ) (some (q_i (m_likely_v μ c))) (m_w w (m_likely_s μ c)) := by
  refine q_T.of (lv := [some (.ref 64), some (q_i c)]) (by decide) rfl (Nat.le_of_ble_eq_true rfl) ?_
  have hV := hPo.1
  have hS := hV.1
  have hs6 := m_sum6 hV
  refine q_aload_n dX12_likely_0 rfl ?_
  refine q_iload_n dX12_likely_1 rfl ?_
  refine q_cV [q_i c] kX12_205_12 rfl (tX12_isSetting w μ c (hc) (by omega) (by omega)) dX12_likely_2 rfl (by decide) (Nat.le_of_ble_eq_true rfl) rfl ?_
  refine q_ifb_eq (tgt := 25) dX12_likely_5 (by decide) (fun h5 => ?_) (fun h5 => ?_)
  · skip
    refine q_iconst dX12_likely_25 ?_
    exact q_iret rfl dX12_likely_26 (⟨by (unfold m_likely_v; (repeat' split) <;> first | rfl | (exfalso; omega)), by (unfold m_likely_s; (repeat' split) <;> first | rfl | (exfalso; omega))⟩)
  · skip
    have hp := hPo.2 (by omega)
    have hwc := hV.2 c (by omega) (by omega)
    refine q_aload_n dX12_likely_8 rfl ?_
    refine q_aload_n dX12_likely_9 rfl ?_
    refine q_get (v := .ref 67) fX12_16_12 rfl rfl dX12_likely_10 ?_
    refine q_iload_n dX12_likely_13 rfl ?_
    refine q_lald (f := (μ 6)) (n9 := 216) rfl (by omega) (by omega) dX12_likely_14 ?_
    refine q_aload_n dX12_likely_15 rfl ?_
    refine q_cV [] kX12_219_12 rfl (tX12_allWeights w μ hV) dX12_likely_16 rfl (by decide) (Nat.le_of_ble_eq_true rfl) rfl ?_
    refine q_cV [q_l ((μ 6) c), q_l (z_sum (μ 6) (μ 3 0))] kX12_223_12 rfl (tX12_tellParts w μ ((μ 6) c) (z_sum (μ 6) (μ 3 0)) hwc.1 (by omega) hp (by omega)) dX12_likely_19 rfl (by decide) (Nat.le_of_ble_eq_true rfl) rfl ?_
    refine q_goto (tgt := 26) dX12_likely_22 (by decide) ?_
    exact q_iret rfl dX12_likely_26 (⟨by (unfold m_likely_v; (repeat' split) <;> first | rfl | (exfalso; omega)), by (unfold m_likely_s; (repeat' split) <;> first | rfl | (exfalso; omega))⟩)
/-- the first place of f's first k at which it is greatest; how many are as great -/
def z_a (f : Int → Int) : Nat → Int
  | 0 => 0
  | k + 1 => if f (z_a f k) < f k then k else z_a f k
def z_am (f : Int → Int) (n : Int) : Int := z_a f n.toNat
def z_c (f : Int → Int) : Nat → Int
  | 0 => 0
  | k + 1 => if f (z_a f k) < f k then 1 else if f k = f (z_a f k) then z_c f k + 1 else z_c f k
def z_ac (f : Int → Int) (n : Int) : Int := z_c f n.toNat
theorem z_am_s (f : Int → Int) {n : Int} (h : 0 ≤ n) : z_am f (n + 1) = if f (z_am f n) < f n then n else z_am f n := by
  unfold z_am
  rw [show (n + 1).toNat = n.toNat + 1 by omega]
  show (if f (z_a f n.toNat) < f (n.toNat : Int) then (n.toNat : Int) else z_a f n.toNat) = _
  rw [show (n.toNat : Int) = n by omega]
theorem z_ac_s (f : Int → Int) {n : Int} (h : 0 ≤ n) : z_ac f (n + 1) = if f (z_am f n) < f n then 1 else if f n = f (z_am f n) then z_ac f n + 1 else z_ac f n := by
  unfold z_ac z_am
  rw [show (n + 1).toNat = n.toNat + 1 by omega]
  show (if f (z_a f n.toNat) < f (n.toNat : Int) then 1 else if f (n.toNat : Int) = f (z_a f n.toNat) then z_c f n.toNat + 1 else z_c f n.toNat) = _
  rw [show (n.toNat : Int) = n by omega]
theorem z_a_r (f : Int → Int) : ∀ k : Nat, 0 ≤ z_a f k ∧ (z_a f k < k ∨ z_a f k = 0)
  | 0 => ⟨Int.le_refl 0, Or.inr rfl⟩
  | k + 1 => by
    have h := z_a_r f k
    show 0 ≤ (if f (z_a f k) < f k then (k : Int) else z_a f k) ∧ ((if f (z_a f k) < f k then (k : Int) else z_a f k) < ((k + 1 : Nat) : Int) ∨ (if f (z_a f k) < f k then (k : Int) else z_a f k) = 0)
    split <;> omega
theorem z_am_r (f : Int → Int) {n : Int} (h : 0 < n) : 0 ≤ z_am f n ∧ z_am f n < n := by
  have h1 := z_a_r f n.toNat
  unfold z_am
  omega
theorem z_am_r0 (f : Int → Int) {n m : Int} (h : 0 ≤ n) (h2 : n ≤ m) (h3 : 0 < m) : 0 ≤ z_am f n ∧ z_am f n < m := by
  have h1 := z_a_r f n.toNat
  unfold z_am
  omega
def m_best_v (μ : m_S) : Int := if μ 4 0 = 0 then -4 else z_am (μ 6) (μ 3 0)
def m_best_s (μ : m_S) : m_S := if μ 4 0 = 0 then μ else m_u μ 11 (fun _ => z_ac (μ 6) (μ 3 0))
set_option maxRecDepth 20000 in
theorem tX12_best (w : q_W) (μ : m_S) (hH : m_Sh μ) (hV : m_V μ) : q_D mX12_best 0 [.ref 64] (m_w w μ) (some (q_i (m_best_v μ))) (m_w w (m_best_s μ)) := by
  refine q_T.of (lv := [some (.ref 64), none, none]) (by decide) rfl (Nat.le_of_ble_eq_true rfl) ?_
  have hb := hH.b
  refine q_aload_n dX12_best_0 rfl ?_
  refine q_get (v := q_i (μ 4 0)) fX12_142_12 rfl rfl dX12_best_1 ?_
  refine q_if_ne (tgt := 10) dX12_best_4 (by decide) ⟨by omega, by omega⟩ (fun h4 => ?_) (fun h4 => ?_)
  · skip
    refine q_iconst dX12_best_10 ?_
    refine q_istore_n (lv' := [some (.ref 64), some (q_i 0), none]) dX12_best_11 (by decide) rfl ?_
    refine q_aload_n dX12_best_12 rfl ?_
    refine q_iconst dX12_best_13 ?_
    refine q_puti (fs := m_o μ) pX12_52_12 rfl (Nat.le_of_ble_eq_true rfl) dX12_best_14 ?_
    rw [m_p11]
    refine q_iconst dX12_best_17 ?_
    refine q_istore_n (lv' := [some (.ref 64), some (q_i 0), some (q_i 0)]) dX12_best_18 (by decide) rfl ?_
    have L19 : ∀ (m9 : Nat) (k : Int) (hk0 : 0 ≤ k) (hk1 : k ≤ μ 3 0) (hm9 : μ 3 0 - k < (m9 : Int)), q_J mX12_best 0 (fun v' w' => v' = (some (q_i (m_best_v μ))) ∧ w' = (m_w w (m_best_s μ))) 0 0 19 [some (.ref 64), some (q_i (z_am (μ 6) k)), some (q_i k)] [] (m_w w (m_u μ 11 (fun _ => z_ac (μ 6) k))) := by
      intro m9
      induction m9 with
      | zero => intro k hk0 hk1 hm9; exact absurd hm9 (by omega)
      | succ m9 ih19 =>
        intro k hk0 hk1 hm9
        refine q_iload_n dX12_best_19 rfl ?_
        refine q_aload_n dX12_best_20 rfl ?_
        refine q_get (v := q_i (μ 3 0)) fX12_139_12 rfl rfl dX12_best_21 ?_
        refine q_icmp_ge (tgt := 108) dX12_best_24 (by decide) ⟨by omega, by omega⟩ ⟨by omega, by omega⟩ (fun h24 => ?_) (fun h24 => ?_)
        · skip
          refine q_iload_n dX12_best_108 rfl ?_
          exact q_iret rfl dX12_best_109 (⟨by rw [show k = μ 3 0 by omega]; unfold m_best_v; split <;> first | rfl | (exfalso; omega), by rw [show k = μ 3 0 by omega]; unfold m_best_s; split <;> first | rfl | (exfalso; omega)⟩)
        · skip
          have har := z_am_r0 (μ 6) hk0 hk1 (by omega)
          refine q_aload_n dX12_best_27 rfl ?_
          refine q_aload_n dX12_best_28 rfl ?_
          refine q_get (v := .ref 67) fX12_16_12 rfl rfl dX12_best_29 ?_
          refine q_iload_n dX12_best_32 rfl ?_
          refine q_lald (f := (μ 6)) (n9 := 216) rfl (by omega) (by omega) dX12_best_33 ?_
          refine q_aload_n dX12_best_34 rfl ?_
          refine q_get (v := .ref 67) fX12_16_12 rfl rfl dX12_best_35 ?_
          refine q_iload_n dX12_best_38 rfl ?_
          refine q_lald (f := (μ 6)) (n9 := 216) rfl (by omega) (by omega) dX12_best_39 ?_
          refine q_lcmp_le (tgt := 48) dX12_best_40 dX12_best_41 (by decide) ⟨by have := hV.2 k (by omega) (by omega); omega, by have := hV.2 k (by omega) (by omega); omega⟩ ⟨by have := hV.2 (z_am (μ 6) k) (by omega) (by omega); omega, by have := hV.2 (z_am (μ 6) k) (by omega) (by omega); omega⟩ (fun h40 => ?_) (fun h40 => ?_)
          · skip
            refine q_aload_n dX12_best_48 rfl ?_
            refine q_get (v := .ref 67) fX12_16_12 rfl rfl dX12_best_49 ?_
            refine q_iload_n dX12_best_52 rfl ?_
            refine q_lald (f := (μ 6)) (n9 := 216) rfl (by omega) (by omega) dX12_best_53 ?_
            refine q_aload_n dX12_best_54 rfl ?_
            refine q_get (v := .ref 67) fX12_16_12 rfl rfl dX12_best_55 ?_
            refine q_iload_n dX12_best_58 rfl ?_
            refine q_lald (f := (μ 6)) (n9 := 216) rfl (by omega) (by omega) dX12_best_59 ?_
            refine q_lcmp_ne (tgt := 73) dX12_best_60 dX12_best_61 (by decide) ⟨by have := hV.2 k (by omega) (by omega); omega, by have := hV.2 k (by omega) (by omega); omega⟩ ⟨by have := hV.2 (z_am (μ 6) k) (by omega) (by omega); omega, by have := hV.2 (z_am (μ 6) k) (by omega) (by omega); omega⟩ (fun h60 => ?_) (fun h60 => ?_)
            · skip
              refine q_aload_n dX12_best_73 rfl ?_
              refine q_get (v := q_i (z_ac (μ 6) k)) fX12_52_12 rfl rfl dX12_best_74 ?_
              refine q_puti (fs := m_o (m_u μ 11 (fun _ => z_ac (μ 6) k))) pX12_52_12 rfl (Nat.le_of_ble_eq_true rfl) dX12_best_77 ?_
              rw [m_p11]
              refine q_aload_n dX12_best_80 rfl ?_
              refine q_get (v := .ref 67) fX12_16_12 rfl rfl dX12_best_81 ?_
              refine q_iload_n dX12_best_84 rfl ?_
              refine q_lald (f := (μ 6)) (n9 := 216) rfl (by omega) (by omega) dX12_best_85 ?_
              refine q_aload_n dX12_best_86 rfl ?_
              refine q_get (v := .ref 67) fX12_16_12 rfl rfl dX12_best_87 ?_
              refine q_iload_n dX12_best_90 rfl ?_
              refine q_lald (f := (μ 6)) (n9 := 216) rfl (by omega) (by omega) dX12_best_91 ?_
              refine q_lcmp_le (tgt := 100) dX12_best_92 dX12_best_93 (by decide) ⟨by have := hV.2 k (by omega) (by omega); omega, by have := hV.2 k (by omega) (by omega); omega⟩ ⟨by have := hV.2 (z_am (μ 6) k) (by omega) (by omega); omega, by have := hV.2 (z_am (μ 6) k) (by omega) (by omega); omega⟩ (fun h92 => ?_) (fun h92 => False.elim (by omega))
              refine q_iload_n dX12_best_100 rfl ?_
              refine q_istore_n (lv' := [some (.ref 64), some (q_i (z_am (μ 6) k)), some (q_i k)]) dX12_best_101 (by decide) rfl ?_
              refine q_iinc (lv' := [some (.ref 64), some (q_i (z_am (μ 6) k)), some (q_i (k + 1))]) dX12_best_102 rfl (by decide) rfl ?_
              refine q_goto (tgt := 19) dX12_best_105 (by decide) ?_
              exact q_Jle (q_le_s (rfl) (q_le_s (by rw [z_am_s _ hk0]; split <;> first | rfl | (exfalso; omega)) (q_le_s (rfl) (q_le_e _)))) (rfl) (by rw [m_uu, z_ac_s _ hk0]; (repeat' split) <;> first | rfl | (exfalso; omega)) (ih19 (k + 1) (by omega) (by omega) (by omega))
            · skip
              refine q_aload_n dX12_best_64 rfl ?_
              refine q_get (v := q_i (z_ac (μ 6) k)) fX12_52_12 rfl rfl dX12_best_65 ?_
              refine q_iconst dX12_best_68 ?_
              refine q_iadd dX12_best_69 ?_
              refine q_goto (tgt := 77) dX12_best_70 (by decide) ?_
              refine q_puti (fs := m_o (m_u μ 11 (fun _ => z_ac (μ 6) k))) pX12_52_12 rfl (Nat.le_of_ble_eq_true rfl) dX12_best_77 ?_
              rw [m_p11]
              refine q_aload_n dX12_best_80 rfl ?_
              refine q_get (v := .ref 67) fX12_16_12 rfl rfl dX12_best_81 ?_
              refine q_iload_n dX12_best_84 rfl ?_
              refine q_lald (f := (μ 6)) (n9 := 216) rfl (by omega) (by omega) dX12_best_85 ?_
              refine q_aload_n dX12_best_86 rfl ?_
              refine q_get (v := .ref 67) fX12_16_12 rfl rfl dX12_best_87 ?_
              refine q_iload_n dX12_best_90 rfl ?_
              refine q_lald (f := (μ 6)) (n9 := 216) rfl (by omega) (by omega) dX12_best_91 ?_
              refine q_lcmp_le (tgt := 100) dX12_best_92 dX12_best_93 (by decide) ⟨by have := hV.2 k (by omega) (by omega); omega, by have := hV.2 k (by omega) (by omega); omega⟩ ⟨by have := hV.2 (z_am (μ 6) k) (by omega) (by omega); omega, by have := hV.2 (z_am (μ 6) k) (by omega) (by omega); omega⟩ (fun h92 => ?_) (fun h92 => False.elim (by omega))
              refine q_iload_n dX12_best_100 rfl ?_
              refine q_istore_n (lv' := [some (.ref 64), some (q_i (z_am (μ 6) k)), some (q_i k)]) dX12_best_101 (by decide) rfl ?_
              refine q_iinc (lv' := [some (.ref 64), some (q_i (z_am (μ 6) k)), some (q_i (k + 1))]) dX12_best_102 rfl (by decide) rfl ?_
              refine q_goto (tgt := 19) dX12_best_105 (by decide) ?_
              exact q_Jle (q_le_s (rfl) (q_le_s (by rw [z_am_s _ hk0]; split <;> first | rfl | (exfalso; omega)) (q_le_s (rfl) (q_le_e _)))) (rfl) (by rw [m_uu, z_ac_s _ hk0]; (repeat' split) <;> first | rfl | (exfalso; omega)) (ih19 (k + 1) (by omega) (by omega) (by omega))
          · skip
            refine q_iconst dX12_best_44 ?_
            refine q_goto (tgt := 77) dX12_best_45 (by decide) ?_
            refine q_puti (fs := m_o (m_u μ 11 (fun _ => z_ac (μ 6) k))) pX12_52_12 rfl (Nat.le_of_ble_eq_true rfl) dX12_best_77 ?_
            rw [m_p11]
            refine q_aload_n dX12_best_80 rfl ?_
            refine q_get (v := .ref 67) fX12_16_12 rfl rfl dX12_best_81 ?_
            refine q_iload_n dX12_best_84 rfl ?_
            refine q_lald (f := (μ 6)) (n9 := 216) rfl (by omega) (by omega) dX12_best_85 ?_
            refine q_aload_n dX12_best_86 rfl ?_
            refine q_get (v := .ref 67) fX12_16_12 rfl rfl dX12_best_87 ?_
            refine q_iload_n dX12_best_90 rfl ?_
            refine q_lald (f := (μ 6)) (n9 := 216) rfl (by omega) (by omega) dX12_best_91 ?_
            refine q_lcmp_le (tgt := 100) dX12_best_92 dX12_best_93 (by decide) ⟨by have := hV.2 k (by omega) (by omega); omega, by have := hV.2 k (by omega) (by omega); omega⟩ ⟨by have := hV.2 (z_am (μ 6) k) (by omega) (by omega); omega, by have := hV.2 (z_am (μ 6) k) (by omega) (by omega); omega⟩ (fun h92 => False.elim (by omega)) (fun h92 => ?_)
            refine q_iload_n dX12_best_96 rfl ?_
            refine q_goto (tgt := 101) dX12_best_97 (by decide) ?_
            refine q_istore_n (lv' := [some (.ref 64), some (q_i k), some (q_i k)]) dX12_best_101 (by decide) rfl ?_
            refine q_iinc (lv' := [some (.ref 64), some (q_i k), some (q_i (k + 1))]) dX12_best_102 rfl (by decide) rfl ?_
            refine q_goto (tgt := 19) dX12_best_105 (by decide) ?_
            exact q_Jle (q_le_s (rfl) (q_le_s (by rw [z_am_s _ hk0]; split <;> first | rfl | (exfalso; omega)) (q_le_s (rfl) (q_le_e _)))) (rfl) (by rw [m_uu, z_ac_s _ hk0]; (repeat' split) <;> first | rfl | (exfalso; omega)) (ih19 (k + 1) (by omega) (by omega) (by omega))
    exact q_Jle (q_le_s (rfl) (q_le_s (rfl) (q_le_s (rfl) (q_le_e _)))) (rfl) (rfl) (L19 ((μ 3 0 : Int).toNat + 1) 0 (by omega) (by omega) (by omega))
  · skip
    refine q_bipush dX12_best_7 ?_
    exact q_iret rfl dX12_best_9 (⟨by (unfold m_best_v; (repeat' split) <;> first | rfl | (exfalso; omega)), by (unfold m_best_s; (repeat' split) <;> first | rfl | (exfalso; omega))⟩)
set_option maxRecDepth 20000 in
theorem tX12_weightsAt (w : q_W) (μ : m_S) (v n : Int) (hv0 : 0 ≤ v) (hv1 : v < μ 1 0) (hn : q_r n) (hG : m_G μ) (hV : m_V μ) : q_D mX12_weightsAt 2 [.ref 64, q_i v, q_i n] (m_w w μ) (some (q_l (z_sum (fun c => if z_nt (μ 1 0) (μ 2 0) c v = n then μ 6 c else 0) (μ 3 0)))) (m_w w μ) := by
  refine q_T.of (lv := [some (.ref 64), some (q_i v), some (q_i n), none, none, none]) (by decide) rfl (Nat.le_of_ble_eq_true rfl) ?_
  have hW := hG.1
  have hN := hG.2.1
  have hS := hG.S
  have hPn := hG.2.2.2.1
  refine q_lconst 0 dX12_weightsAt_0 ?_
  refine q_lstore_n (lv' := [some (.ref 64), some (q_i v), some (q_i n), some (q_l 0), none, none]) dX12_weightsAt_1 (by decide) rfl ?_
  refine q_iconst dX12_weightsAt_2 ?_
  refine q_istore (lv' := [some (.ref 64), some (q_i v), some (q_i n), some (q_l 0), none, some (q_i 0)]) dX12_weightsAt_3 (by decide) rfl ?_
  have L5 : ∀ (m9 : Nat) (k : Int) (hk0 : 0 ≤ k) (hk1 : k ≤ μ 3 0) (hm9 : μ 3 0 - k < (m9 : Int)), q_J mX12_weightsAt 2 (fun v' w' => v' = (some (q_l (z_sum (fun c => if z_nt (μ 1 0) (μ 2 0) c v = n then μ 6 c else 0) (μ 3 0)))) ∧ w' = (m_w w μ)) 0 0 5 [some (.ref 64), some (q_i v), some (q_i n), some (q_l (z_sum (fun c => if z_nt (μ 1 0) (μ 2 0) c v = n then μ 6 c else 0) k)), none, some (q_i k)] [] (m_w w μ) := by
    intro m9
    induction m9 with
    | zero => intro k hk0 hk1 hm9; exact absurd hm9 (by omega)
    | succ m9 ih5 =>
      intro k hk0 hk1 hm9
      refine q_iload dX12_weightsAt_5 rfl ?_
      refine q_aload_n dX12_weightsAt_7 rfl ?_
      refine q_get (v := q_i (μ 3 0)) fX12_139_12 rfl rfl dX12_weightsAt_8 ?_
      refine q_icmp_ge (tgt := 45) dX12_weightsAt_11 (by decide) ⟨by omega, by omega⟩ ⟨by omega, by omega⟩ (fun h11 => ?_) (fun h11 => ?_)
      · skip
        refine q_lload_n dX12_weightsAt_45 rfl ?_
        exact q_lret rfl dX12_weightsAt_46 (⟨by rw [show k = μ 3 0 by omega], rfl⟩)
      · skip
        refine q_lload_n dX12_weightsAt_14 rfl ?_
        refine q_aload_n dX12_weightsAt_15 rfl ?_
        refine q_iload dX12_weightsAt_16 rfl ?_
        refine q_iload_n dX12_weightsAt_18 rfl ?_
        refine q_cV [q_i k, q_i v] kX12_148_12 rfl (tX12_notch w μ k v (by omega) (by omega) (by omega) (by omega) hG) dX12_weightsAt_19 rfl (by decide) (Nat.le_of_ble_eq_true rfl) rfl ?_
        have hnr := z_nt_r (W := μ 1 0) (N := μ 2 0) (s := k) (w := v) hN.1 hk0 (z_pw_r hN (n := μ 1 0 - 1 - v) (by omega) (by omega)).1
        refine q_iload_n dX12_weightsAt_22 rfl ?_
        refine q_icmp_ne (tgt := 36) dX12_weightsAt_23 (by decide) ⟨by omega, by omega⟩ hn (fun h23 => ?_) (fun h23 => ?_)
        · skip
          refine q_lconst 0 dX12_weightsAt_36 ?_
          refine q_ladd dX12_weightsAt_37 ?_
          refine q_lstore_n (lv' := [some (.ref 64), some (q_i v), some (q_i n), some (q_l ((z_sum (fun c => if z_nt (μ 1 0) (μ 2 0) c v = n then μ 6 c else 0) k) + 0)), none, some (q_i k)]) dX12_weightsAt_38 (by decide) rfl ?_
          refine q_iinc (lv' := [some (.ref 64), some (q_i v), some (q_i n), some (q_l ((z_sum (fun c => if z_nt (μ 1 0) (μ 2 0) c v = n then μ 6 c else 0) k) + 0)), none, some (q_i (k + 1))]) dX12_weightsAt_39 rfl (by decide) rfl ?_
          refine q_goto (tgt := 5) dX12_weightsAt_42 (by decide) ?_
          exact q_Jle (q_le_s (rfl) (q_le_s (rfl) (q_le_s (rfl) (q_le_s (by rw [z_sum_s _ hk0]; (try dsimp only); (repeat' split) <;> first | rfl | (exfalso; omega)) (q_le_n (q_le_s (rfl) (q_le_e _))))))) (rfl) (rfl) (ih5 (k + 1) (by omega) (by omega) (by omega))
        · skip
          refine q_aload_n dX12_weightsAt_26 rfl ?_
          refine q_get (v := .ref 67) fX12_16_12 rfl rfl dX12_weightsAt_27 ?_
          refine q_iload dX12_weightsAt_30 rfl ?_
          refine q_lald (f := (μ 6)) (n9 := 216) rfl (by omega) (by omega) dX12_weightsAt_32 ?_
          refine q_goto (tgt := 37) dX12_weightsAt_33 (by decide) ?_
          refine q_ladd dX12_weightsAt_37 ?_
          refine q_lstore_n (lv' := [some (.ref 64), some (q_i v), some (q_i n), some (q_l ((z_sum (fun c => if z_nt (μ 1 0) (μ 2 0) c v = n then μ 6 c else 0) k) + ((μ 6) k))), none, some (q_i k)]) dX12_weightsAt_38 (by decide) rfl ?_
          refine q_iinc (lv' := [some (.ref 64), some (q_i v), some (q_i n), some (q_l ((z_sum (fun c => if z_nt (μ 1 0) (μ 2 0) c v = n then μ 6 c else 0) k) + ((μ 6) k))), none, some (q_i (k + 1))]) dX12_weightsAt_39 rfl (by decide) rfl ?_
          refine q_goto (tgt := 5) dX12_weightsAt_42 (by decide) ?_
          exact q_Jle (q_le_s (rfl) (q_le_s (rfl) (q_le_s (rfl) (q_le_s (by rw [z_sum_s _ hk0]; (try dsimp only); (repeat' split) <;> first | rfl | (exfalso; omega)) (q_le_n (q_le_s (rfl) (q_le_e _))))))) (rfl) (rfl) (ih5 (k + 1) (by omega) (by omega) (by omega))
  exact q_Jle (q_le_s (rfl) (q_le_s (rfl) (q_le_s (rfl) (q_le_s (rfl) (q_le_n (q_le_s (rfl) (q_le_e _))))))) (rfl) (rfl) (L5 ((μ 3 0 : Int).toNat + 1) 0 (by omega) (by omega) (by omega))
theorem m_wa_r {μ : m_S} (h : m_V μ) (v n : Int) : 0 ≤ z_sum (fun c => if z_nt (μ 1 0) (μ 2 0) c v = n then μ 6 c else 0) (μ 3 0) ∧ z_sum (fun c => if z_nt (μ 1 0) (μ 2 0) c v = n then μ 6 c else 0) (μ 3 0) ≤ 927712935936 := by
  have h1 := z_sum_b (fun c => if z_nt (μ 1 0) (μ 2 0) c v = n then μ 6 c else 0) 0 4294967296 h.1.1 (fun j h0 h1 => by
    have h2 := h.2 j h0 h1
    (try dsimp only)
    split <;> omega)
  have h2 := h.1
  omega
def m_wheel_v (μ : m_S) (v n : Int) : Int := if ¬ (0 ≤ v ∧ v ≤ μ 1 0 - 1) then -1 else if ¬ (0 ≤ n ∧ n ≤ μ 2 0 - 1) then -1 else 1
def m_wheel_s (μ : m_S) (v n : Int) : m_S := if ¬ (0 ≤ v ∧ v ≤ μ 1 0 - 1) then μ else if ¬ (0 ≤ n ∧ n ≤ μ 2 0 - 1) then μ else m_tp μ (z_sum (fun c => if z_nt (μ 1 0) (μ 2 0) c v = n then μ 6 c else 0) (μ 3 0)) (z_sum (μ 6) (μ 3 0))
set_option maxRecDepth 20000 in
theorem tX12_wheel (w : q_W) (μ : m_S) (v n : Int) (hv : q_r v) (hn : q_r n) (hH : m_Sh μ) (hPo : m_Po μ) : q_D mX12_wheel 3 [.ref 64, q_i v, q_i n] (m_w w μ) (some (q_i (m_wheel_v μ v n))) (m_w w (m_wheel_s μ v n)) := by
  refine q_T.of (lv := [some (.ref 64), some (q_i v), some (q_i n)]) (by decide) rfl (Nat.le_of_ble_eq_true rfl) ?_
  have hb := hH.b
  have hV := hPo.1
  have hS := hV.1
  have hs6 := m_sum6 hV
  refine q_iload_n dX12_wheel_0 rfl ?_
  refine q_i2lr dX12_wheel_1 hv ?_
  refine q_lconst 0 dX12_wheel_2 ?_
  refine q_aload_n dX12_wheel_3 rfl ?_
  refine q_get (v := q_i (μ 1 0)) fX12_130_12 rfl rfl dX12_wheel_4 ?_
  refine q_iconst dX12_wheel_7 ?_
  refine q_isub dX12_wheel_8 ?_
  refine q_i2lr dX12_wheel_9 ⟨by omega, by omega⟩ ?_
  refine q_cS [q_l v, q_l 0, q_l ((μ 1 0) - 1)] kX12_57 (tX12_in v 0 ((μ 1 0) - 1) (⟨by have := (hv).1; omega, by have := (hv).2; omega⟩) (⟨by decide, by decide⟩) (⟨by omega, by omega⟩) (m_w w μ)) dX12_wheel_10 rfl (by decide) (Nat.le_of_ble_eq_true rfl) rfl ?_
  refine q_ifb_eq (tgt := 49) dX12_wheel_13 (by decide) (fun h13 => ?_) (fun h13 => ?_)
  · skip
    refine q_iconst dX12_wheel_49 ?_
    exact q_iret rfl dX12_wheel_50 (⟨by (unfold m_wheel_v; (repeat' split) <;> first | rfl | (exfalso; omega)), by (unfold m_wheel_s; (repeat' split) <;> first | rfl | (exfalso; omega))⟩)
  · skip
    refine q_iload_n dX12_wheel_16 rfl ?_
    refine q_i2lr dX12_wheel_17 hn ?_
    refine q_lconst 0 dX12_wheel_18 ?_
    refine q_aload_n dX12_wheel_19 rfl ?_
    refine q_get (v := q_i (μ 2 0)) fX12_133_12 rfl rfl dX12_wheel_20 ?_
    refine q_iconst dX12_wheel_23 ?_
    refine q_isub dX12_wheel_24 ?_
    refine q_i2lr dX12_wheel_25 ⟨by omega, by omega⟩ ?_
    refine q_cS [q_l n, q_l 0, q_l ((μ 2 0) - 1)] kX12_57 (tX12_in n 0 ((μ 2 0) - 1) (⟨by have := (hn).1; omega, by have := (hn).2; omega⟩) (⟨by decide, by decide⟩) (⟨by omega, by omega⟩) (m_w w μ)) dX12_wheel_26 rfl (by decide) (Nat.le_of_ble_eq_true rfl) rfl ?_
    refine q_ifb_eq (tgt := 49) dX12_wheel_29 (by decide) (fun h29 => ?_) (fun h29 => ?_)
    · skip
      refine q_iconst dX12_wheel_49 ?_
      exact q_iret rfl dX12_wheel_50 (⟨by (unfold m_wheel_v; (repeat' split) <;> first | rfl | (exfalso; omega)), by (unfold m_wheel_s; (repeat' split) <;> first | rfl | (exfalso; omega))⟩)
    · skip
      have hG := hH.g (by omega)
      have hS4 := hG.S
      have hp := hPo.2 (by omega)
      have hwr := m_wa_r hV v n
      refine q_aload_n dX12_wheel_32 rfl ?_
      refine q_aload_n dX12_wheel_33 rfl ?_
      refine q_iload_n dX12_wheel_34 rfl ?_
      refine q_iload_n dX12_wheel_35 rfl ?_
      refine q_cV [q_i v, q_i n] kX12_227_12 rfl (tX12_weightsAt w μ v n (by omega) (show _ < μ 1 0 by omega) hn hG hV) dX12_wheel_36 rfl (by decide) (Nat.le_of_ble_eq_true rfl) rfl ?_
      show q_J _ _ _ _ _ _ _ [q_l (z_sum (fun c => if z_nt (μ 1 0) (μ 2 0) c v = n then μ 6 c else 0) (μ 3 0)), .ref 64] (m_w w μ)
      refine q_aload_n dX12_wheel_39 rfl ?_
      refine q_cV [] kX12_219_12 rfl (tX12_allWeights w μ hV) dX12_wheel_40 rfl (by decide) (Nat.le_of_ble_eq_true rfl) rfl ?_
      refine q_cV [q_l (z_sum (fun c => if z_nt (μ 1 0) (μ 2 0) c v = n then μ 6 c else 0) (μ 3 0)), q_l (z_sum (μ 6) (μ 3 0))] kX12_223_12 rfl (tX12_tellParts w μ (z_sum (fun c => if z_nt (μ 1 0) (μ 2 0) c v = n then μ 6 c else 0) (μ 3 0)) (z_sum (μ 6) (μ 3 0)) hwr.1 (by omega) hp (by omega)) dX12_wheel_43 rfl (by decide) (Nat.le_of_ble_eq_true rfl) rfl ?_
      refine q_goto (tgt := 50) dX12_wheel_46 (by decide) ?_
      exact q_iret rfl dX12_wheel_50 (⟨by (unfold m_wheel_v; (repeat' split) <;> first | rfl | (exfalso; omega)), by (unfold m_wheel_s; (repeat' split) <;> first | rfl | (exfalso; omega))⟩)
/-- the one notch of a wheel at which all weights lie, or 9 -/
def z_u (g : Int → Int) (a : Int) : Nat → Int
  | 0 => 9
  | k + 1 => if g k = a then k else z_u g a k
def z_su (g : Int → Int) (a n : Int) : Int := z_u g a n.toNat
theorem z_su_s (g : Int → Int) (a : Int) {n : Int} (h : 0 ≤ n) : z_su g a (n + 1) = if g n = a then n else z_su g a n := by
  unfold z_su
  rw [show (n + 1).toNat = n.toNat + 1 by omega]
  show (if g (n.toNat : Int) = a then (n.toNat : Int) else z_u g a n.toNat) = _
  rw [show (n.toNat : Int) = n by omega]
theorem z_u_r (g : Int → Int) (a : Int) : ∀ k : Nat, 0 ≤ z_u g a k ∧ (z_u g a k < k ∨ z_u g a k = 9)
  | 0 => ⟨by show (0 : Int) ≤ 9; decide, Or.inr rfl⟩
  | k + 1 => by
    have h := z_u_r g a k
    show 0 ≤ (if g k = a then (k : Int) else z_u g a k) ∧ ((if g k = a then (k : Int) else z_u g a k) < ((k + 1 : Nat) : Int) ∨ (if g k = a then (k : Int) else z_u g a k) = 9)
    split <;> omega
theorem z_su_r (g : Int → Int) (a n : Int) (h : 0 ≤ n) : 0 ≤ z_su g a n ∧ (z_su g a n < n ∨ z_su g a n = 9) := by
  have h1 := z_u_r g a n.toNat
  unfold z_su
  omega
/-- bits of the places below n at which u is below 9; the numbers u told by tens -/
def z_b (u : Int → Int) : Nat → Int
  | 0 => 0
  | k + 1 => q_or (z_b u k) (if u k < 9 then q_shl 1 k else 0)
def z_bits (u : Int → Int) (n : Int) : Int := z_b u n.toNat
theorem z_bits_s (u : Int → Int) {n : Int} (h : 0 ≤ n) : z_bits u (n + 1) = q_or (z_bits u n) (if u n < 9 then q_shl 1 n else 0) := by
  unfold z_bits
  rw [show (n + 1).toNat = n.toNat + 1 by omega]
  show q_or (z_b u n.toNat) (if u (n.toNat : Int) < 9 then q_shl 1 (n.toNat : Int) else 0) = _
  rw [show (n.toNat : Int) = n by omega]
def z_t (u : Int → Int) : Nat → Int
  | 0 => 0
  | k + 1 => 10 * z_t u k + u k
def z_tens (u : Int → Int) (n : Int) : Int := z_t u n.toNat
theorem z_tens_s (u : Int → Int) {n : Int} (h : 0 ≤ n) : z_tens u (n + 1) = 10 * z_tens u n + u n := by
  unfold z_tens
  rw [show (n + 1).toNat = n.toNat + 1 by omega]
  show 10 * z_t u n.toNat + u (n.toNat : Int) = _
  rw [show (n.toNat : Int) = n by omega]
def m_wa (μ : m_S) (v n : Int) : Int := z_sum (fun c => if z_nt (μ 1 0) (μ 2 0) c v = n then μ 6 c else 0) (μ 3 0)
def m_sure (μ : m_S) (v : Int) : Int := z_su (m_wa μ v) (z_sum (μ 6) (μ 3 0)) (μ 2 0)
def m_certain_v (μ : m_S) : Int := if μ 4 0 = 0 then -4 else z_bits (m_sure μ) (μ 1 0)
def m_certain_s (μ : m_S) : m_S := if μ 4 0 = 0 then μ else m_u μ 11 (fun _ => z_tens (m_sure μ) (μ 1 0))
set_option maxRecDepth 20000 in
theorem tX12_certain (w : q_W) (μ : m_S) (hH : m_Sh μ) (hV : m_V μ) : q_D mX12_certain 3 [.ref 64] (m_w w μ) (some (q_i (m_certain_v μ))) (m_w w (m_certain_s μ)) := by
  refine q_T.of (lv := [some (.ref 64), none, none, none, none, none, none]) (by decide) rfl (Nat.le_of_ble_eq_true rfl) ?_
  have hb := hH.b
  have hs6 := m_sum6 hV
  refine q_aload_n dX12_certain_0 rfl ?_
  refine q_get (v := q_i (μ 4 0)) fX12_142_12 rfl rfl dX12_certain_1 ?_
  refine q_if_ne (tgt := 10) dX12_certain_4 (by decide) ⟨by omega, by omega⟩ (fun h4 => ?_) (fun h4 => ?_)
  · skip
    refine q_aload_n dX12_certain_10 rfl ?_
    refine q_cV [] kX12_219_12 rfl (tX12_allWeights w μ hV) dX12_certain_11 rfl (by decide) (Nat.le_of_ble_eq_true rfl) rfl ?_
    refine q_lstore_n (lv' := [some (.ref 64), some (q_l (z_sum (μ 6) (μ 3 0))), none, none, none, none, none]) dX12_certain_14 (by decide) rfl ?_
    refine q_iconst dX12_certain_15 ?_
    refine q_istore_n (lv' := [some (.ref 64), some (q_l (z_sum (μ 6) (μ 3 0))), none, some (q_i 0), none, none, none]) dX12_certain_16 (by decide) rfl ?_
    refine q_aload_n dX12_certain_17 rfl ?_
    refine q_iconst dX12_certain_18 ?_
    refine q_puti (fs := m_o μ) pX12_52_12 rfl (Nat.le_of_ble_eq_true rfl) dX12_certain_19 ?_
    rw [m_p11]
    refine q_iconst dX12_certain_22 ?_
    refine q_istore (lv' := [some (.ref 64), some (q_l (z_sum (μ 6) (μ 3 0))), none, some (q_i 0), some (q_i 0), none, none]) dX12_certain_23 (by decide) rfl ?_
    have L25 : ∀ (m9 : Nat) (v : Int) (hv0 : 0 ≤ v) (hv1 : v ≤ μ 1 0) (hm9 : μ 1 0 - v < (m9 : Int)), q_J mX12_certain 3 (fun v' w' => v' = (some (q_i (m_certain_v μ))) ∧ w' = (m_w w (m_certain_s μ))) 0 0 25 [some (.ref 64), some (q_l (z_sum (μ 6) (μ 3 0))), none, some (q_i (z_bits (m_sure μ) v)), some (q_i v), none, none] [] (m_w w (m_u μ 11 (fun _ => z_tens (m_sure μ) v))) := by
      intro m9
      induction m9 with
      | zero => intro v hv0 hv1 hm9; exact absurd hm9 (by omega)
      | succ m9 ih25 =>
        intro v hv0 hv1 hm9
        refine q_iload dX12_certain_25 rfl ?_
        refine q_aload_n dX12_certain_27 rfl ?_
        refine q_get (v := q_i (μ 1 0)) fX12_130_12 rfl rfl dX12_certain_28 ?_
        refine q_icmp_ge (tgt := 116) dX12_certain_31 (by decide) ⟨by omega, by omega⟩ ⟨by omega, by omega⟩ (fun h31 => ?_) (fun h31 => ?_)
        · skip
          refine q_iload_n dX12_certain_116 rfl ?_
          exact q_iret rfl dX12_certain_117 (⟨by rw [show v = μ 1 0 by omega]; unfold m_certain_v; split <;> first | rfl | (exfalso; omega), by rw [show v = μ 1 0 by omega]; unfold m_certain_s; split <;> first | rfl | (exfalso; omega)⟩)
        · skip
          have hG := hH.g (by omega)
          refine q_bipush dX12_certain_34 ?_
          refine q_istore (lv' := [some (.ref 64), some (q_l (z_sum (μ 6) (μ 3 0))), none, some (q_i (z_bits (m_sure μ) v)), some (q_i v), some (q_i 9), none]) dX12_certain_36 (by decide) rfl ?_
          refine q_iconst dX12_certain_38 ?_
          refine q_istore (lv' := [some (.ref 64), some (q_l (z_sum (μ 6) (μ 3 0))), none, some (q_i (z_bits (m_sure μ) v)), some (q_i v), some (q_i 9), some (q_i 0)]) dX12_certain_39 (by decide) rfl ?_
          have L41 : ∀ (m9 : Nat) (n : Int) (hn0 : 0 ≤ n) (hn1 : n ≤ μ 2 0) (hm9 : μ 2 0 - n < (m9 : Int)), q_J mX12_certain 3 (fun v' w' => v' = (some (q_i (m_certain_v μ))) ∧ w' = (m_w w (m_certain_s μ))) 0 0 41 [some (.ref 64), some (q_l (z_sum (μ 6) (μ 3 0))), none, some (q_i (z_bits (m_sure μ) v)), some (q_i v), some (q_i (z_su (m_wa μ v) (z_sum (μ 6) (μ 3 0)) n)), some (q_i n)] [] (m_w w (m_u μ 11 (fun _ => z_tens (m_sure μ) v))) := by
            intro m9
            induction m9 with
            | zero => intro n hn0 hn1 hm9; exact absurd hm9 (by omega)
            | succ m9 ih41 =>
              intro n hn0 hn1 hm9
              refine q_iload dX12_certain_41 rfl ?_
              refine q_aload_n dX12_certain_43 rfl ?_
              refine q_get (v := q_i (μ 2 0)) fX12_133_12 rfl rfl dX12_certain_44 ?_
              refine q_icmp_ge (tgt := 78) dX12_certain_47 (by decide) ⟨by omega, by omega⟩ ⟨by omega, by omega⟩ (fun h47 => ?_) (fun h47 => ?_)
              · skip
                have hne : n = μ 2 0 := by omega
                subst hne
                refine q_Jle (lv' := [some (.ref 64), some (q_l (z_sum (μ 6) (μ 3 0))), none, some (q_i (z_bits (m_sure μ) v)), some (q_i v), some (q_i (m_sure μ v)), none]) (q_le_s rfl (q_le_s rfl (q_le_n (q_le_s rfl (q_le_s rfl (q_le_s rfl (q_le_n (q_le_e _)))))))) rfl rfl ?_
                have hsr : 0 ≤ m_sure μ v ∧ (m_sure μ v < μ 2 0 ∨ m_sure μ v = 9) := z_su_r _ _ _ (by omega)
                refine q_iload_n dX12_certain_78 rfl ?_
                refine q_iload dX12_certain_79 rfl ?_
                refine q_bipush dX12_certain_81 ?_
                refine q_icmp_ge (tgt := 93) dX12_certain_83 (by decide) ⟨by omega, by omega⟩ ⟨by decide, by decide⟩ (fun h83 => ?_) (fun h83 => ?_)
                · skip
                  refine q_iconst dX12_certain_93 ?_
                  refine q_ior dX12_certain_94 ?_
                  refine q_istore_n (lv' := [some (.ref 64), some (q_l (z_sum (μ 6) (μ 3 0))), none, some (q_i (q_or (z_bits (m_sure μ) v) 0)), some (q_i v), some (q_i (m_sure μ v)), none]) dX12_certain_95 (by decide) rfl ?_
                  refine q_aload_n dX12_certain_96 rfl ?_
                  refine q_bipush dX12_certain_97 ?_
                  refine q_aload_n dX12_certain_99 rfl ?_
                  refine q_get (v := q_i (z_tens (m_sure μ) v)) fX12_52_12 rfl rfl dX12_certain_100 ?_
                  refine q_imul dX12_certain_103 ?_
                  refine q_iload dX12_certain_104 rfl ?_
                  refine q_iadd dX12_certain_106 ?_
                  refine q_puti (fs := m_o (m_u μ 11 (fun _ => z_tens (m_sure μ) v))) pX12_52_12 rfl (Nat.le_of_ble_eq_true rfl) dX12_certain_107 ?_
                  rw [m_p11]
                  refine q_iinc (lv' := [some (.ref 64), some (q_l (z_sum (μ 6) (μ 3 0))), none, some (q_i (q_or (z_bits (m_sure μ) v) 0)), some (q_i (v + 1)), some (q_i (m_sure μ v)), none]) dX12_certain_110 rfl (by decide) rfl ?_
                  refine q_goto (tgt := 25) dX12_certain_113 (by decide) ?_
                  exact q_Jle (q_le_s (rfl) (q_le_s (rfl) (q_le_n (q_le_s (by rw [z_bits_s _ hv0]; split <;> first | rfl | (exfalso; omega)) (q_le_s (rfl) (q_le_n (q_le_n (q_le_e _)))))))) (rfl) (by rw [m_uu, z_tens_s _ hv0]) (ih25 (v + 1) (by omega) (by omega) (by omega))
                · skip
                  refine q_iconst dX12_certain_86 ?_
                  refine q_iload dX12_certain_87 rfl ?_
                  refine q_ishl dX12_certain_89 ?_
                  refine q_goto (tgt := 94) dX12_certain_90 (by decide) ?_
                  refine q_ior dX12_certain_94 ?_
                  refine q_istore_n (lv' := [some (.ref 64), some (q_l (z_sum (μ 6) (μ 3 0))), none, some (q_i (q_or (z_bits (m_sure μ) v) (q_shl 1 v))), some (q_i v), some (q_i (m_sure μ v)), none]) dX12_certain_95 (by decide) rfl ?_
                  refine q_aload_n dX12_certain_96 rfl ?_
                  refine q_bipush dX12_certain_97 ?_
                  refine q_aload_n dX12_certain_99 rfl ?_
                  refine q_get (v := q_i (z_tens (m_sure μ) v)) fX12_52_12 rfl rfl dX12_certain_100 ?_
                  refine q_imul dX12_certain_103 ?_
                  refine q_iload dX12_certain_104 rfl ?_
                  refine q_iadd dX12_certain_106 ?_
                  refine q_puti (fs := m_o (m_u μ 11 (fun _ => z_tens (m_sure μ) v))) pX12_52_12 rfl (Nat.le_of_ble_eq_true rfl) dX12_certain_107 ?_
                  rw [m_p11]
                  refine q_iinc (lv' := [some (.ref 64), some (q_l (z_sum (μ 6) (μ 3 0))), none, some (q_i (q_or (z_bits (m_sure μ) v) (q_shl 1 v))), some (q_i (v + 1)), some (q_i (m_sure μ v)), none]) dX12_certain_110 rfl (by decide) rfl ?_
                  refine q_goto (tgt := 25) dX12_certain_113 (by decide) ?_
                  exact q_Jle (q_le_s (rfl) (q_le_s (rfl) (q_le_n (q_le_s (by rw [z_bits_s _ hv0]; split <;> first | rfl | (exfalso; omega)) (q_le_s (rfl) (q_le_n (q_le_n (q_le_e _)))))))) (rfl) (by rw [m_uu, z_tens_s _ hv0]) (ih25 (v + 1) (by omega) (by omega) (by omega))
              · skip
                refine q_aload_n dX12_certain_50 rfl ?_
                refine q_iload dX12_certain_51 rfl ?_
                refine q_iload dX12_certain_53 rfl ?_
                refine q_cV [q_i v, q_i n] kX12_227_12 rfl (tX12_weightsAt w (m_u μ 11 (fun _ => z_tens (m_sure μ) v)) v n (by omega) (show _ < μ 1 0 by omega) ⟨by omega, by omega⟩ hG hV) dX12_certain_55 rfl (by decide) (Nat.le_of_ble_eq_true rfl) rfl ?_
                show q_J _ _ _ _ _ _ _ [q_l (z_sum (fun c => if z_nt (μ 1 0) (μ 2 0) c v = n then μ 6 c else 0) (μ 3 0))] (m_w w (m_u μ 11 (fun _ => z_tens (m_sure μ) v)))
                refine q_lload_n dX12_certain_58 rfl ?_
                refine q_lcmp_ne (tgt := 68) dX12_certain_59 dX12_certain_60 (by decide) ⟨by have := m_wa_r hV v n; omega, by have := m_wa_r hV v n; omega⟩ ⟨by omega, by omega⟩ (fun h59 => ?_) (fun h59 => ?_)
                · skip
                  refine q_iload dX12_certain_68 rfl ?_
                  refine q_istore (lv' := [some (.ref 64), some (q_l (z_sum (μ 6) (μ 3 0))), none, some (q_i (z_bits (m_sure μ) v)), some (q_i v), some (q_i (z_su (m_wa μ v) (z_sum (μ 6) (μ 3 0)) n)), some (q_i n)]) dX12_certain_70 (by decide) rfl ?_
                  refine q_iinc (lv' := [some (.ref 64), some (q_l (z_sum (μ 6) (μ 3 0))), none, some (q_i (z_bits (m_sure μ) v)), some (q_i v), some (q_i (z_su (m_wa μ v) (z_sum (μ 6) (μ 3 0)) n)), some (q_i (n + 1))]) dX12_certain_72 rfl (by decide) rfl ?_
                  refine q_goto (tgt := 41) dX12_certain_75 (by decide) ?_
                  exact q_Jle (q_le_s (rfl) (q_le_s (rfl) (q_le_n (q_le_s (rfl) (q_le_s (rfl) (q_le_s (by rw [z_su_s _ _ hn0]; split <;> first | rfl | contradiction) (q_le_s (rfl) (q_le_e _)))))))) (rfl) (rfl) (ih41 (n + 1) (by omega) (by omega) (by omega))
                · skip
                  refine q_iload dX12_certain_63 rfl ?_
                  refine q_goto (tgt := 70) dX12_certain_65 (by decide) ?_
                  refine q_istore (lv' := [some (.ref 64), some (q_l (z_sum (μ 6) (μ 3 0))), none, some (q_i (z_bits (m_sure μ) v)), some (q_i v), some (q_i n), some (q_i n)]) dX12_certain_70 (by decide) rfl ?_
                  refine q_iinc (lv' := [some (.ref 64), some (q_l (z_sum (μ 6) (μ 3 0))), none, some (q_i (z_bits (m_sure μ) v)), some (q_i v), some (q_i n), some (q_i (n + 1))]) dX12_certain_72 rfl (by decide) rfl ?_
                  refine q_goto (tgt := 41) dX12_certain_75 (by decide) ?_
                  exact q_Jle (q_le_s (rfl) (q_le_s (rfl) (q_le_n (q_le_s (rfl) (q_le_s (rfl) (q_le_s (by rw [z_su_s _ _ hn0]; split <;> first | rfl | contradiction) (q_le_s (rfl) (q_le_e _)))))))) (rfl) (rfl) (ih41 (n + 1) (by omega) (by omega) (by omega))
          exact q_Jle (q_le_s (rfl) (q_le_s (rfl) (q_le_n (q_le_s (rfl) (q_le_s (rfl) (q_le_s (rfl) (q_le_s (rfl) (q_le_e _)))))))) (rfl) (rfl) (L41 ((μ 2 0 : Int).toNat + 1) 0 (by omega) (by omega) (by omega))
    exact q_Jle (q_le_s (rfl) (q_le_s (rfl) (q_le_n (q_le_s (rfl) (q_le_s (rfl) (q_le_n (q_le_n (q_le_e _)))))))) (rfl) (rfl) (L25 ((μ 1 0 : Int).toNat + 1) 0 (by omega) (by omega) (by omega))
  · skip
    refine q_bipush dX12_certain_7 ?_
    exact q_iret rfl dX12_certain_9 (⟨by (unfold m_certain_v; (repeat' split) <;> first | rfl | (exfalso; omega)), by (unfold m_certain_s; (repeat' split) <;> first | rfl | (exfalso; omega))⟩)
